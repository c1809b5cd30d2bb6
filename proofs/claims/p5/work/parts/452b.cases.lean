set_option maxHeartbeats 4000000 in
set_option maxRecDepth 100000 in
/-- the law at a call of judge -/
theorem lc_judge {p : Program} {e : Env} {s : State} {m : MethodId} {below : List Frame} {meth : Method} {c : Code} (l : Launch) {b L : Nat} {xs : Nat → Int32} (C0 : lw_At p s m meth c b L xs) (hL : L ≤ 4096) {D : va_G} {E : Nat → ClassId} {G : Nat → Nat} {A : Nat → Prop} (hAe : A = fun q => s.heap.size ≤ q) (hK : va_K D vwCl (oh_ty E) s) (hG : oh_G G A s) {a : Nat → Nat} {i : Nat} (hi : i + 8 ≤ L) {ma : Nat → Nat} {C M : Nat → va_E} {n cN sN : Nat} (hT : TyX a E C) (hTM : TyM ma E M) (hR : RelM M) (hkp : KEPT E n ma M) (ht1 : gi (C 5) 1 = gi (M 0) 7) (ht2 : gi (C 0) 2 = 0 ↔ n = 74) (ht3 : ga (C 32) = ga (M 7)) (htA : ∃ A0 : LA, absX 10 C A0 ∧ absM M A0 ∧ ∃ (S0 : HZ) (Z0 : EZ), absHX C S0 ∧ absHM M S0 ∧ absEX C S0 Z0 ∧ absEM M S0 Z0) (htK : TIEK n C M) (hcN : cN ≤ 35 + n) (hsN : sN ≤ 1477 + 16 * n) {H : Heap} {locs : List Loc} (hP : va_P D vwCl (oh_W 35 a C ++ oh_W n ma M) H) (hD : va_D A (oh_W 35 a C ++ oh_W n ma M)) (hS : va_S A s.heap H locs) {ls : Array Slot} (hl : lv_has ls 4 [(3, .int (nI i)), (2, .ref (ma 0)), (1, .ref (a 0)), (0, .ref b)]) (kk : ∀ (ma : Nat → Nat) (C M : Nat → va_E) (n cN sN : Nat) (H : Heap) (locs : List Loc) (ls : Array Slot), TyX a E C → TyM ma E M → RelM M → KEPT E n ma M → gi (C 5) 1 = gi (M 0) 7 → (gi (C 0) 2 = 0 ↔ n = 74) → ga (C 32) = ga (M 7) → (∃ A0 : LA, absX 10 C A0 ∧ absM M A0 ∧ ∃ (S0 : HZ) (Z0 : EZ), absHX C S0 ∧ absHM M S0 ∧ absEX C S0 Z0 ∧ absEM M S0 Z0) → TIEK n C M → cN ≤ 35 + n → sN ≤ 1477 + 16 * n → va_P D vwCl (oh_W 35 a C ++ oh_W n ma M) H → va_D A (oh_W 35 a C ++ oh_W n ma M) → va_S A s.heap H locs → lv_has ls 4 [(3, .int (nI i)), (2, .ref (ma 0)), (1, .ref (a 0)), (0, .ref b)] → W p l e room_1 s m #[Value.ref b] below meth c H locs cN sN (lw_Z below #[Value.ref b] s) (F0 m 2046 ls [])) : W p l e room_1 s m #[Value.ref b] below meth c H locs cN sN (lw_Z below #[Value.ref b] s) (F0 m 1501 ls []) := by
  obtain ⟨hx, hb, hr, hml, hown, hts, hX, hbl, hlocks, hgv⟩ := id C0
  have hown : s.vm.findClass RL = some m.cls := hown
  have htg : ∀ w ∈ oh_t, w.before _ s = true := fun w h => hts w (List.mem_filter.mp h).1
  have hA : ∀ q, s.heap.size ≤ q → A q := fun q h => by rw [hAe]; exact h
  have hbA : ¬ A b := by rw [hAe]; exact Nat.not_le.mpr hbl
  have hn := hkp.le.1
  have hn8 := hkp.le.2
  have ht10 := ht1
  have ht20 := ht2
  have ht30 := ht3
  obtain ⟨A0, hAX, hAM, S0, Z0, hSX, hSM, hEX, hEM⟩ := htA
  have hAX0 := hAX
  have hAM0 := hAM
  have htK0 := htK
  have hSX0 := hSX
  have hSM0 := hSM
  have hEX0 := hEX
  have hEM0 := hEM
  refine lv_aload_n hx hb dL_law_1501 rfl (lv_at hl 2 rfl) ?_
  refine lv_aload_n hx hb dL_law_1502 rfl (lv_at hl 3 rfl) ?_
  refine lv_iload_n hx hb dL_law_1503 rfl (lv_at hl 0 rfl) ?_
  refine lv_iconst (v := 1) hx hb dL_law_1504 (by decide) ?_
  refine lv_iadd hx hb dL_law_1505 ?_
  refine va_sld hx hb hX hbl hbA hS (lw_ix hi hL (rg_c (v := 1) (lo := 1) (hi := 1) (by decide)) (by decide)) dL_law_1506 ?_
  refine lv_aload_n hx hb dL_law_1507 rfl (lv_at hl 3 rfl) ?_
  refine lv_iload_n hx hb dL_law_1508 rfl (lv_at hl 0 rfl) ?_
  refine lv_iconst (v := 2) hx hb dL_law_1509 (by decide) ?_
  refine lv_iadd hx hb dL_law_1510 ?_
  refine va_sld hx hb hX hbl hbA hS (lw_ix hi hL (rg_c (v := 2) (lo := 2) (hi := 2) (by decide)) (by decide)) dL_law_1511 ?_
  refine lv_aload_n hx hb dL_law_1512 rfl (lv_at hl 3 rfl) ?_
  refine lv_iload_n hx hb dL_law_1513 rfl (lv_at hl 0 rfl) ?_
  refine lv_iconst (v := 3) hx hb dL_law_1514 (by decide) ?_
  refine lv_iadd hx hb dL_law_1515 ?_
  refine va_sld hx hb hX hbl hbA hS (lw_ix hi hL (rg_c (v := 3) (lo := 3) (hi := 3) (by decide)) (by decide)) dL_law_1516 ?_
  refine lv_aload_n hx hb dL_law_1517 rfl (lv_at hl 3 rfl) ?_
  refine lv_iload_n hx hb dL_law_1518 rfl (lv_at hl 0 rfl) ?_
  refine lv_iconst (v := 4) hx hb dL_law_1519 (by decide) ?_
  refine lv_iadd hx hb dL_law_1520 ?_
  refine va_sld hx hb hX hbl hbA hS (lw_ix hi hL (rg_c (v := 4) (lo := 4) (hi := 4) (by decide)) (by decide)) dL_law_1521 ?_
  refine lv_aload_n hx hb dL_law_1522 rfl (lv_at hl 3 rfl) ?_
  refine lv_iload_n hx hb dL_law_1523 rfl (lv_at hl 0 rfl) ?_
  refine lv_iconst (v := 5) hx hb dL_law_1524 (by decide) ?_
  refine lv_iadd hx hb dL_law_1525 ?_
  refine va_sld hx hb hX hbl hbA hS (lw_ix hi hL (rg_c (v := 5) (lo := 5) (hi := 5) (by decide)) (by decide)) dL_law_1526 ?_
  refine lw_cX (As := [.int (xs ((nI i) + 1).toNatClampNeg), .int (xs ((nI i) + 2).toNatClampNeg), .int (xs ((nI i) + 3).toNatClampNeg), .int (xs ((nI i) + 4).toNatClampNeg), .int (xs ((nI i) + 5).toNatClampNeg)]) (rest := []) ⟨hx, hb, hml, hown, htg⟩ (c_X6_judge l D E G _ a C hT (xs ((nI i) + 1).toNatClampNeg) (xs ((nI i) + 2).toNatClampNeg) (xs ((nI i) + 3).toNatClampNeg) (xs ((nI i) + 4).toNatClampNeg) (xs ((nI i) + 5).toNatClampNeg)) (cwV 5 htg (oh_gV q_826 q_827 q_828 q_66 q_829) rfl rfl rfl pdVX6_judge ⟨Nat.le_of_ble_eq_true rfl, Nat.le_of_ble_eq_true rfl⟩) hK hP hD hG hS hA (va_recv hK (oh_pre_P hP) (ci := 6) (q0 := 0) rfl (oh_wg (by decide) (sX_0 hT))) rfl hl.1 rfl (Nat.le_of_ble_eq_true rfl) dL_law_1527 ⟨show cN + 0 ≤ 600000 by omega, show sN + 0 ≤ 7302250 by omega⟩ (fun r_1 C_3 H locs hq_2 hP hD hS => ?_)
  obtain ⟨hT, f_4, hq_2⟩ := hq_2
  have ht1 : gi (C_3 5) 1 = gi (M 0) 7 := by rw [f_4.1 5 rfl (by decide)]; exact ht1
  have ht2 : gi (C_3 0) 2 = 0 ↔ n = 74 := by rw [show gi (C_3 0) 2 = gi (C 0) 2 from congrArg vi (f_4.2 2 (by decide))]; exact ht2
  have ht3 : ga (C_3 32) = ga (M 7) := Eq.trans (congrArg ga (f_4.1 32 rfl (by decide))) ht3
  have htK := htK.x (fr_all f_4 17 22 (by decide))
  have hAX : absX 10 C_3 A0 := absX_eq hAX (fun k k1 k2 => fr_all f_4 10 15 (by decide) k k1 (by omega))
  have hEX := ex_eq hEX (f_4.1 31 rfl (by decide))
  have hSX : absHX C_3 S0 := hx_fr hSX (f_4.1 29 rfl (by decide)) (f_4.1 30 rfl (by decide))
  refine W.widen (k := cN) (n := sN) (Nat.le_refl _) (Nat.le_refl _) ?_
  refine lv_pop hx hb dL_law_1530 rfl ?_
  refine lv_aload_n hx hb dL_law_1531 rfl (lv_at hl 1 rfl) ?_
  refine lv_aload_n hx hb dL_law_1532 rfl (lv_at hl 3 rfl) ?_
  refine lv_iload_n hx hb dL_law_1533 rfl (lv_at hl 0 rfl) ?_
  refine lv_iconst (v := 1) hx hb dL_law_1534 (by decide) ?_
  refine lv_iadd hx hb dL_law_1535 ?_
  refine va_sld hx hb hX hbl hbA hS (lw_ix hi hL (rg_c (v := 1) (lo := 1) (hi := 1) (by decide)) (by decide)) dL_law_1536 ?_
  refine lv_aload_n hx hb dL_law_1537 rfl (lv_at hl 3 rfl) ?_
  refine lv_iload_n hx hb dL_law_1538 rfl (lv_at hl 0 rfl) ?_
  refine lv_iconst (v := 2) hx hb dL_law_1539 (by decide) ?_
  refine lv_iadd hx hb dL_law_1540 ?_
  refine va_sld hx hb hX hbl hbA hS (lw_ix hi hL (rg_c (v := 2) (lo := 2) (hi := 2) (by decide)) (by decide)) dL_law_1541 ?_
  refine lv_aload_n hx hb dL_law_1542 rfl (lv_at hl 3 rfl) ?_
  refine lv_iload_n hx hb dL_law_1543 rfl (lv_at hl 0 rfl) ?_
  refine lv_iconst (v := 3) hx hb dL_law_1544 (by decide) ?_
  refine lv_iadd hx hb dL_law_1545 ?_
  refine va_sld hx hb hX hbl hbA hS (lw_ix hi hL (rg_c (v := 3) (lo := 3) (hi := 3) (by decide)) (by decide)) dL_law_1546 ?_
  refine lv_aload_n hx hb dL_law_1547 rfl (lv_at hl 3 rfl) ?_
  refine lv_iload_n hx hb dL_law_1548 rfl (lv_at hl 0 rfl) ?_
  refine lv_iconst (v := 4) hx hb dL_law_1549 (by decide) ?_
  refine lv_iadd hx hb dL_law_1550 ?_
  refine va_sld hx hb hX hbl hbA hS (lw_ix hi hL (rg_c (v := 4) (lo := 4) (hi := 4) (by decide)) (by decide)) dL_law_1551 ?_
  refine lv_aload_n hx hb dL_law_1552 rfl (lv_at hl 3 rfl) ?_
  refine lv_iload_n hx hb dL_law_1553 rfl (lv_at hl 0 rfl) ?_
  refine lv_iconst (v := 5) hx hb dL_law_1554 (by decide) ?_
  refine lv_iadd hx hb dL_law_1555 ?_
  refine va_sld hx hb hX hbl hbA hS (lw_ix hi hL (rg_c (v := 5) (lo := 5) (hi := 5) (by decide)) (by decide)) dL_law_1556 ?_
  refine lw_cM (As := [.int (xs ((nI i) + 1).toNatClampNeg), .int (xs ((nI i) + 2).toNatClampNeg), .int (xs ((nI i) + 3).toNatClampNeg), .int (xs ((nI i) + 4).toNatClampNeg), .int (xs ((nI i) + 5).toNatClampNeg)]) (rest := []) ⟨hx, hb, hml, hown, htg⟩ (c_X7_judge l D E G _ ma M n hn hTM (xs ((nI i) + 1).toNatClampNeg) (xs ((nI i) + 2).toNatClampNeg) (xs ((nI i) + 3).toNatClampNeg) (xs ((nI i) + 4).toNatClampNeg) (xs ((nI i) + 5).toNatClampNeg) hR) (cwV 5 htg (oh_gV q_1369 q_1370 q_1371 q_73 q_1372) rfl rfl rfl pdVX7_judge ⟨Nat.le_of_ble_eq_true rfl, Nat.le_of_ble_eq_true rfl⟩) hK hP hD hG hS hA (va_recv hK (oh_suf_P hP) (ci := 7) (q0 := 0) rfl (oh_wg (by omega) (sM_0 hTM))) rfl hl.1 rfl (Nat.le_of_ble_eq_true rfl) dL_law_1557 ⟨show cN + 0 ≤ 600000 by omega, show sN + 0 ≤ 7302250 by omega⟩ (fun r_5 M_7 H locs hq_6 hP hD hS => ?_)
  have hTM0 := hTM
  obtain ⟨hTM, f_8, hR⟩ := hq_6
  have hkp := kept_fr hkp f_8 (by decide)
  have ht1 : gi (C_3 5) 1 = gi (M_7 0) 7 := by rw [show gi (M_7 0) 7 = gi (M 0) 7 from congrArg vi (f_8.2 7 (by decide))]; exact ht1
  have ht3 : ga (C_3 32) = ga (M_7 7) := Eq.trans ht3 (congrArg ga (f_8.1 7 rfl (by decide))).symm
  have htK := htK.m f_8 (by decide)
  have hAM : absM M_7 A0 := absM_fr hAM hTM0 f_8 (by decide) (by decide) (by decide)
  have hEM := em_eq hEM (fun s hs => f_8.1 (16 + s) (inR_out hs (by decide)) (by omega))
  have hSM : absHM M_7 S0 := hm_fr hSM (f_8.1 1 rfl (by decide)) (f_8.1 2 rfl (by decide)) (f_8.1 3 rfl (by decide)) (f_8.1 6 rfl (by decide))
  refine W.widen (k := cN) (n := sN) (Nat.le_refl _) (Nat.le_refl _) ?_
  refine lv_pop hx hb dL_law_1560 rfl ?_
  refine lv_goto (tgt := 2046) hx hb dL_law_1561 (by decide) ?_
  exact kk ma C_3 M_7 n (cN) (sN) H locs ls hT hTM hR hkp ht1 ht2 ht3 ⟨_, hAX, hAM, _, _, hSX, hSM, hEX, hEM⟩ htK (by omega) (by omega) hP hD hS hl

set_option maxHeartbeats 4000000 in
set_option maxRecDepth 100000 in
/-- the law at a call of told -/
theorem lc_told {p : Program} {e : Env} {s : State} {m : MethodId} {below : List Frame} {meth : Method} {c : Code} (l : Launch) {b L : Nat} {xs : Nat → Int32} (C0 : lw_At p s m meth c b L xs) (hL : L ≤ 4096) {D : va_G} {E : Nat → ClassId} {G : Nat → Nat} {A : Nat → Prop} (hAe : A = fun q => s.heap.size ≤ q) (hK : va_K D vwCl (oh_ty E) s) (hG : oh_G G A s) {a : Nat → Nat} {i : Nat} (hi : i + 8 ≤ L) {ma : Nat → Nat} {C M : Nat → va_E} {n cN sN : Nat} (hT : TyX a E C) (hTM : TyM ma E M) (hR : RelM M) (hkp : KEPT E n ma M) (ht1 : gi (C 5) 1 = gi (M 0) 7) (ht2 : gi (C 0) 2 = 0 ↔ n = 74) (ht3 : ga (C 32) = ga (M 7)) (htA : ∃ A0 : LA, absX 10 C A0 ∧ absM M A0 ∧ ∃ (S0 : HZ) (Z0 : EZ), absHX C S0 ∧ absHM M S0 ∧ absEX C S0 Z0 ∧ absEM M S0 Z0) (htK : TIEK n C M) (hcN : cN ≤ 35 + n) (hsN : sN ≤ 1477 + 16 * n) {H : Heap} {locs : List Loc} (hP : va_P D vwCl (oh_W 35 a C ++ oh_W n ma M) H) (hD : va_D A (oh_W 35 a C ++ oh_W n ma M)) (hS : va_S A s.heap H locs) {ls : Array Slot} (hl : lv_has ls 4 [(3, .int (nI i)), (2, .ref (ma 0)), (1, .ref (a 0)), (0, .ref b)]) (kk : ∀ (ma : Nat → Nat) (C M : Nat → va_E) (n cN sN : Nat) (H : Heap) (locs : List Loc) (ls : Array Slot), TyX a E C → TyM ma E M → RelM M → KEPT E n ma M → gi (C 5) 1 = gi (M 0) 7 → (gi (C 0) 2 = 0 ↔ n = 74) → ga (C 32) = ga (M 7) → (∃ A0 : LA, absX 10 C A0 ∧ absM M A0 ∧ ∃ (S0 : HZ) (Z0 : EZ), absHX C S0 ∧ absHM M S0 ∧ absEX C S0 Z0 ∧ absEM M S0 Z0) → TIEK n C M → cN ≤ 35 + n → sN ≤ 1477 + 16 * n → va_P D vwCl (oh_W 35 a C ++ oh_W n ma M) H → va_D A (oh_W 35 a C ++ oh_W n ma M) → va_S A s.heap H locs → lv_has ls 4 [(3, .int (nI i)), (2, .ref (ma 0)), (1, .ref (a 0)), (0, .ref b)] → W p l e room_1 s m #[Value.ref b] below meth c H locs cN sN (lw_Z below #[Value.ref b] s) (F0 m 2046 ls [])) : W p l e room_1 s m #[Value.ref b] below meth c H locs cN sN (lw_Z below #[Value.ref b] s) (F0 m 1564 ls []) := by
  obtain ⟨hx, hb, hr, hml, hown, hts, hX, hbl, hlocks, hgv⟩ := id C0
  have hown : s.vm.findClass RL = some m.cls := hown
  have htg : ∀ w ∈ oh_t, w.before _ s = true := fun w h => hts w (List.mem_filter.mp h).1
  have hA : ∀ q, s.heap.size ≤ q → A q := fun q h => by rw [hAe]; exact h
  have hbA : ¬ A b := by rw [hAe]; exact Nat.not_le.mpr hbl
  have hn := hkp.le.1
  have hn8 := hkp.le.2
  have ht10 := ht1
  have ht20 := ht2
  have ht30 := ht3
  obtain ⟨A0, hAX, hAM, S0, Z0, hSX, hSM, hEX, hEM⟩ := htA
  have hAX0 := hAX
  have hAM0 := hAM
  have htK0 := htK
  have hSX0 := hSX
  have hSM0 := hSM
  have hEX0 := hEX
  have hEM0 := hEM
  refine lv_aload_n hx hb dL_law_1564 rfl (lv_at hl 2 rfl) ?_
  refine lv_aload_n hx hb dL_law_1565 rfl (lv_at hl 3 rfl) ?_
  refine lv_iload_n hx hb dL_law_1566 rfl (lv_at hl 0 rfl) ?_
  refine lv_iconst (v := 1) hx hb dL_law_1567 (by decide) ?_
  refine lv_iadd hx hb dL_law_1568 ?_
  refine va_sld hx hb hX hbl hbA hS (lw_ix hi hL (rg_c (v := 1) (lo := 1) (hi := 1) (by decide)) (by decide)) dL_law_1569 ?_
  refine lv_aload_n hx hb dL_law_1570 rfl (lv_at hl 3 rfl) ?_
  refine lv_iload_n hx hb dL_law_1571 rfl (lv_at hl 0 rfl) ?_
  refine lv_iconst (v := 2) hx hb dL_law_1572 (by decide) ?_
  refine lv_iadd hx hb dL_law_1573 ?_
  refine va_sld hx hb hX hbl hbA hS (lw_ix hi hL (rg_c (v := 2) (lo := 2) (hi := 2) (by decide)) (by decide)) dL_law_1574 ?_
  refine lv_aload_n hx hb dL_law_1575 rfl (lv_at hl 3 rfl) ?_
  refine lv_iload_n hx hb dL_law_1576 rfl (lv_at hl 0 rfl) ?_
  refine lv_iconst (v := 3) hx hb dL_law_1577 (by decide) ?_
  refine lv_iadd hx hb dL_law_1578 ?_
  refine va_sld hx hb hX hbl hbA hS (lw_ix hi hL (rg_c (v := 3) (lo := 3) (hi := 3) (by decide)) (by decide)) dL_law_1579 ?_
  refine lv_aload_n hx hb dL_law_1580 rfl (lv_at hl 3 rfl) ?_
  refine lv_iload_n hx hb dL_law_1581 rfl (lv_at hl 0 rfl) ?_
  refine lv_iconst (v := 4) hx hb dL_law_1582 (by decide) ?_
  refine lv_iadd hx hb dL_law_1583 ?_
  refine va_sld hx hb hX hbl hbA hS (lw_ix hi hL (rg_c (v := 4) (lo := 4) (hi := 4) (by decide)) (by decide)) dL_law_1584 ?_
  refine lv_aload_n hx hb dL_law_1585 rfl (lv_at hl 3 rfl) ?_
  refine lv_iload_n hx hb dL_law_1586 rfl (lv_at hl 0 rfl) ?_
  refine lv_iconst (v := 5) hx hb dL_law_1587 (by decide) ?_
  refine lv_iadd hx hb dL_law_1588 ?_
  refine va_sld hx hb hX hbl hbA hS (lw_ix hi hL (rg_c (v := 5) (lo := 5) (hi := 5) (by decide)) (by decide)) dL_law_1589 ?_
  refine lv_aload_n hx hb dL_law_1590 rfl (lv_at hl 3 rfl) ?_
  refine lv_iload_n hx hb dL_law_1591 rfl (lv_at hl 0 rfl) ?_
  refine lv_bipush (v := 6) hx hb dL_law_1592 (by decide) ?_
  refine lv_iadd hx hb dL_law_1594 ?_
  refine va_sld hx hb hX hbl hbA hS (lw_ix hi hL (rg_c (v := 6) (lo := 6) (hi := 6) (by decide)) (by decide)) dL_law_1595 ?_
  refine lw_cX (As := [.int (xs ((nI i) + 1).toNatClampNeg), .int (xs ((nI i) + 2).toNatClampNeg), .int (xs ((nI i) + 3).toNatClampNeg), .int (xs ((nI i) + 4).toNatClampNeg), .int (xs ((nI i) + 5).toNatClampNeg), .int (xs ((nI i) + 6).toNatClampNeg)]) (rest := []) ⟨hx, hb, hml, hown, htg⟩ (c_X6_told l D E G _ a C hT (xs ((nI i) + 1).toNatClampNeg) (xs ((nI i) + 2).toNatClampNeg) (xs ((nI i) + 3).toNatClampNeg) (xs ((nI i) + 4).toNatClampNeg) (xs ((nI i) + 5).toNatClampNeg) (xs ((nI i) + 6).toNatClampNeg)) (cwV 6 htg (oh_gV q_850 q_851 q_852 q_66 q_853) rfl rfl rfl pdVX6_told ⟨Nat.le_of_ble_eq_true rfl, Nat.le_of_ble_eq_true rfl⟩) hK hP hD hG hS hA (va_recv hK (oh_pre_P hP) (ci := 6) (q0 := 0) rfl (oh_wg (by decide) (sX_0 hT))) rfl hl.1 rfl (Nat.le_of_ble_eq_true rfl) dL_law_1596 ⟨show cN + 0 ≤ 600000 by omega, show sN + 0 ≤ 7302250 by omega⟩ (fun r_1 C_3 H locs hq_2 hP hD hS => ?_)
  obtain ⟨hT, f_4, hq_2⟩ := hq_2
  have ht1 : gi (C_3 5) 1 = gi (M 0) 7 := by rw [f_4.1 5 rfl (by decide)]; exact ht1
  have ht2 : gi (C_3 0) 2 = 0 ↔ n = 74 := by rw [show gi (C_3 0) 2 = gi (C 0) 2 from congrArg vi (f_4.2 2 (by decide))]; exact ht2
  have ht3 : ga (C_3 32) = ga (M 7) := Eq.trans (congrArg ga (f_4.1 32 rfl (by decide))) ht3
  have htK := htK.x (fr_all f_4 17 22 (by decide))
  have hAX : absX 10 C_3 A0 := absX_eq hAX (fun k k1 k2 => fr_all f_4 10 15 (by decide) k k1 (by omega))
  have hEX := ex_eq hEX (f_4.1 31 rfl (by decide))
  have hSX : absHX C_3 S0 := hx_fr hSX (f_4.1 29 rfl (by decide)) (f_4.1 30 rfl (by decide))
  refine W.widen (k := cN) (n := sN) (Nat.le_refl _) (Nat.le_refl _) ?_
  refine lv_pop hx hb dL_law_1599 rfl ?_
  refine lv_aload_n hx hb dL_law_1600 rfl (lv_at hl 1 rfl) ?_
  refine lv_aload_n hx hb dL_law_1601 rfl (lv_at hl 3 rfl) ?_
  refine lv_iload_n hx hb dL_law_1602 rfl (lv_at hl 0 rfl) ?_
  refine lv_iconst (v := 1) hx hb dL_law_1603 (by decide) ?_
  refine lv_iadd hx hb dL_law_1604 ?_
  refine va_sld hx hb hX hbl hbA hS (lw_ix hi hL (rg_c (v := 1) (lo := 1) (hi := 1) (by decide)) (by decide)) dL_law_1605 ?_
  refine lv_aload_n hx hb dL_law_1606 rfl (lv_at hl 3 rfl) ?_
  refine lv_iload_n hx hb dL_law_1607 rfl (lv_at hl 0 rfl) ?_
  refine lv_iconst (v := 2) hx hb dL_law_1608 (by decide) ?_
  refine lv_iadd hx hb dL_law_1609 ?_
  refine va_sld hx hb hX hbl hbA hS (lw_ix hi hL (rg_c (v := 2) (lo := 2) (hi := 2) (by decide)) (by decide)) dL_law_1610 ?_
  refine lv_aload_n hx hb dL_law_1611 rfl (lv_at hl 3 rfl) ?_
  refine lv_iload_n hx hb dL_law_1612 rfl (lv_at hl 0 rfl) ?_
  refine lv_iconst (v := 3) hx hb dL_law_1613 (by decide) ?_
  refine lv_iadd hx hb dL_law_1614 ?_
  refine va_sld hx hb hX hbl hbA hS (lw_ix hi hL (rg_c (v := 3) (lo := 3) (hi := 3) (by decide)) (by decide)) dL_law_1615 ?_
  refine lv_aload_n hx hb dL_law_1616 rfl (lv_at hl 3 rfl) ?_
  refine lv_iload_n hx hb dL_law_1617 rfl (lv_at hl 0 rfl) ?_
  refine lv_iconst (v := 4) hx hb dL_law_1618 (by decide) ?_
  refine lv_iadd hx hb dL_law_1619 ?_
  refine va_sld hx hb hX hbl hbA hS (lw_ix hi hL (rg_c (v := 4) (lo := 4) (hi := 4) (by decide)) (by decide)) dL_law_1620 ?_
  refine lv_aload_n hx hb dL_law_1621 rfl (lv_at hl 3 rfl) ?_
  refine lv_iload_n hx hb dL_law_1622 rfl (lv_at hl 0 rfl) ?_
  refine lv_iconst (v := 5) hx hb dL_law_1623 (by decide) ?_
  refine lv_iadd hx hb dL_law_1624 ?_
  refine va_sld hx hb hX hbl hbA hS (lw_ix hi hL (rg_c (v := 5) (lo := 5) (hi := 5) (by decide)) (by decide)) dL_law_1625 ?_
  refine lv_aload_n hx hb dL_law_1626 rfl (lv_at hl 3 rfl) ?_
  refine lv_iload_n hx hb dL_law_1627 rfl (lv_at hl 0 rfl) ?_
  refine lv_bipush (v := 6) hx hb dL_law_1628 (by decide) ?_
  refine lv_iadd hx hb dL_law_1630 ?_
  refine va_sld hx hb hX hbl hbA hS (lw_ix hi hL (rg_c (v := 6) (lo := 6) (hi := 6) (by decide)) (by decide)) dL_law_1631 ?_
  refine lw_cM (As := [.int (xs ((nI i) + 1).toNatClampNeg), .int (xs ((nI i) + 2).toNatClampNeg), .int (xs ((nI i) + 3).toNatClampNeg), .int (xs ((nI i) + 4).toNatClampNeg), .int (xs ((nI i) + 5).toNatClampNeg), .int (xs ((nI i) + 6).toNatClampNeg)]) (rest := []) ⟨hx, hb, hml, hown, htg⟩ (c_X7_told_ l D E G _ ma M n hn hTM (xs ((nI i) + 1).toNatClampNeg) (xs ((nI i) + 2).toNatClampNeg) (xs ((nI i) + 3).toNatClampNeg) (xs ((nI i) + 4).toNatClampNeg) (xs ((nI i) + 5).toNatClampNeg) (xs ((nI i) + 6).toNatClampNeg) hR) (cwV 6 htg (oh_gV q_1381 q_1382 q_1383 q_73 q_1384) rfl rfl rfl pdVX7_told_ ⟨Nat.le_of_ble_eq_true rfl, Nat.le_of_ble_eq_true rfl⟩) hK hP hD hG hS hA (va_recv hK (oh_suf_P hP) (ci := 7) (q0 := 0) rfl (oh_wg (by omega) (sM_0 hTM))) rfl hl.1 rfl (Nat.le_of_ble_eq_true rfl) dL_law_1632 ⟨show cN + 0 ≤ 600000 by omega, show sN + 0 ≤ 7302250 by omega⟩ (fun r_5 M_7 H locs hq_6 hP hD hS => ?_)
  have hTM0 := hTM
  obtain ⟨hTM, f_8, hR⟩ := hq_6
  have hkp := kept_fr hkp f_8 (by decide)
  have ht1 : gi (C_3 5) 1 = gi (M_7 0) 7 := by rw [show gi (M_7 0) 7 = gi (M 0) 7 from congrArg vi (f_8.2 7 (by decide))]; exact ht1
  have ht3 : ga (C_3 32) = ga (M_7 7) := Eq.trans ht3 (congrArg ga (f_8.1 7 rfl (by decide))).symm
  have htK := htK.m f_8 (by decide)
  have hAM : absM M_7 A0 := absM_fr hAM hTM0 f_8 (by decide) (by decide) (by decide)
  have hEM := em_eq hEM (fun s hs => f_8.1 (16 + s) (inR_out hs (by decide)) (by omega))
  have hSM : absHM M_7 S0 := hm_fr hSM (f_8.1 1 rfl (by decide)) (f_8.1 2 rfl (by decide)) (f_8.1 3 rfl (by decide)) (f_8.1 6 rfl (by decide))
  refine W.widen (k := cN) (n := sN) (Nat.le_refl _) (Nat.le_refl _) ?_
  refine lv_pop hx hb dL_law_1635 rfl ?_
  refine lv_goto (tgt := 2046) hx hb dL_law_1636 (by decide) ?_
  exact kk ma C_3 M_7 n (cN) (sN) H locs ls hT hTM hR hkp ht1 ht2 ht3 ⟨_, hAX, hAM, _, _, hSX, hSM, hEX, hEM⟩ htK (by omega) (by omega) hP hD hS hl

set_option maxHeartbeats 4000000 in
set_option maxRecDepth 100000 in
/-- the law at a call of reach -/
theorem lc_reach {p : Program} {e : Env} {s : State} {m : MethodId} {below : List Frame} {meth : Method} {c : Code} (l : Launch) {b L : Nat} {xs : Nat → Int32} (C0 : lw_At p s m meth c b L xs) (hL : L ≤ 4096) {D : va_G} {E : Nat → ClassId} {G : Nat → Nat} {A : Nat → Prop} (hAe : A = fun q => s.heap.size ≤ q) (hK : va_K D vwCl (oh_ty E) s) (hG : oh_G G A s) {a : Nat → Nat} {i : Nat} (hi : i + 8 ≤ L) {ma : Nat → Nat} {C M : Nat → va_E} {n cN sN : Nat} (hT : TyX a E C) (hTM : TyM ma E M) (hR : RelM M) (hkp : KEPT E n ma M) (ht1 : gi (C 5) 1 = gi (M 0) 7) (ht2 : gi (C 0) 2 = 0 ↔ n = 74) (ht3 : ga (C 32) = ga (M 7)) (htA : ∃ A0 : LA, absX 10 C A0 ∧ absM M A0 ∧ ∃ (S0 : HZ) (Z0 : EZ), absHX C S0 ∧ absHM M S0 ∧ absEX C S0 Z0 ∧ absEM M S0 Z0) (htK : TIEK n C M) (hcN : cN ≤ 35 + n) (hsN : sN ≤ 1477 + 16 * n) {H : Heap} {locs : List Loc} (hP : va_P D vwCl (oh_W 35 a C ++ oh_W n ma M) H) (hD : va_D A (oh_W 35 a C ++ oh_W n ma M)) (hS : va_S A s.heap H locs) {ls : Array Slot} (hl : lv_has ls 4 [(3, .int (nI i)), (2, .ref (ma 0)), (1, .ref (a 0)), (0, .ref b)]) (kk : ∀ (ma : Nat → Nat) (C M : Nat → va_E) (n cN sN : Nat) (H : Heap) (locs : List Loc) (ls : Array Slot), TyX a E C → TyM ma E M → RelM M → KEPT E n ma M → gi (C 5) 1 = gi (M 0) 7 → (gi (C 0) 2 = 0 ↔ n = 74) → ga (C 32) = ga (M 7) → (∃ A0 : LA, absX 10 C A0 ∧ absM M A0 ∧ ∃ (S0 : HZ) (Z0 : EZ), absHX C S0 ∧ absHM M S0 ∧ absEX C S0 Z0 ∧ absEM M S0 Z0) → TIEK n C M → cN ≤ 35 + n → sN ≤ 1477 + 16 * n → va_P D vwCl (oh_W 35 a C ++ oh_W n ma M) H → va_D A (oh_W 35 a C ++ oh_W n ma M) → va_S A s.heap H locs → lv_has ls 4 [(3, .int (nI i)), (2, .ref (ma 0)), (1, .ref (a 0)), (0, .ref b)] → W p l e room_1 s m #[Value.ref b] below meth c H locs cN sN (lw_Z below #[Value.ref b] s) (F0 m 2046 ls [])) : W p l e room_1 s m #[Value.ref b] below meth c H locs cN sN (lw_Z below #[Value.ref b] s) (F0 m 1639 ls []) := by
  obtain ⟨hx, hb, hr, hml, hown, hts, hX, hbl, hlocks, hgv⟩ := id C0
  have hown : s.vm.findClass RL = some m.cls := hown
  have htg : ∀ w ∈ oh_t, w.before _ s = true := fun w h => hts w (List.mem_filter.mp h).1
  have hA : ∀ q, s.heap.size ≤ q → A q := fun q h => by rw [hAe]; exact h
  have hbA : ¬ A b := by rw [hAe]; exact Nat.not_le.mpr hbl
  have hn := hkp.le.1
  have hn8 := hkp.le.2
  have ht10 := ht1
  have ht20 := ht2
  have ht30 := ht3
  obtain ⟨A0, hAX, hAM, S0, Z0, hSX, hSM, hEX, hEM⟩ := htA
  have hAX0 := hAX
  have hAM0 := hAM
  have htK0 := htK
  have hSX0 := hSX
  have hSM0 := hSM
  have hEX0 := hEX
  have hEM0 := hEM
  refine lv_aload_n hx hb dL_law_1639 rfl (lv_at hl 2 rfl) ?_
  refine lv_aload_n hx hb dL_law_1640 rfl (lv_at hl 3 rfl) ?_
  refine lv_iload_n hx hb dL_law_1641 rfl (lv_at hl 0 rfl) ?_
  refine lv_iconst (v := 1) hx hb dL_law_1642 (by decide) ?_
  refine lv_iadd hx hb dL_law_1643 ?_
  refine va_sld hx hb hX hbl hbA hS (lw_ix hi hL (rg_c (v := 1) (lo := 1) (hi := 1) (by decide)) (by decide)) dL_law_1644 ?_
  refine lv_aload_n hx hb dL_law_1645 rfl (lv_at hl 3 rfl) ?_
  refine lv_iload_n hx hb dL_law_1646 rfl (lv_at hl 0 rfl) ?_
  refine lv_iconst (v := 2) hx hb dL_law_1647 (by decide) ?_
  refine lv_iadd hx hb dL_law_1648 ?_
  refine va_sld hx hb hX hbl hbA hS (lw_ix hi hL (rg_c (v := 2) (lo := 2) (hi := 2) (by decide)) (by decide)) dL_law_1649 ?_
  refine lv_aload_n hx hb dL_law_1650 rfl (lv_at hl 3 rfl) ?_
  refine lv_iload_n hx hb dL_law_1651 rfl (lv_at hl 0 rfl) ?_
  refine lv_iconst (v := 3) hx hb dL_law_1652 (by decide) ?_
  refine lv_iadd hx hb dL_law_1653 ?_
  refine va_sld hx hb hX hbl hbA hS (lw_ix hi hL (rg_c (v := 3) (lo := 3) (hi := 3) (by decide)) (by decide)) dL_law_1654 ?_
  refine lw_cX (As := [.int (xs ((nI i) + 1).toNatClampNeg), .int (xs ((nI i) + 2).toNatClampNeg), .int (xs ((nI i) + 3).toNatClampNeg)]) (rest := []) ⟨hx, hb, hml, hown, htg⟩ (c_X6_reach l D E G _ a C hT (xs ((nI i) + 1).toNatClampNeg) (xs ((nI i) + 2).toNatClampNeg) (xs ((nI i) + 3).toNatClampNeg)) (cwV 3 htg (oh_gV q_860 q_861 q_862 q_66 q_863) rfl rfl rfl pdVX6_reach ⟨Nat.le_of_ble_eq_true rfl, Nat.le_of_ble_eq_true rfl⟩) hK hP hD hG hS hA (va_recv hK (oh_pre_P hP) (ci := 6) (q0 := 0) rfl (oh_wg (by decide) (sX_0 hT))) rfl hl.1 rfl (Nat.le_of_ble_eq_true rfl) dL_law_1655 ⟨show cN + 0 ≤ 600000 by omega, show sN + 0 ≤ 7302250 by omega⟩ (fun r_1 C_3 H locs hq_2 hP hD hS => ?_)
  obtain ⟨hT, f_4, hq_2⟩ := hq_2
  have ht1 : gi (C_3 5) 1 = gi (M 0) 7 := by rw [f_4.1 5 rfl (by decide)]; exact ht1
  have ht2 : gi (C_3 0) 2 = 0 ↔ n = 74 := by rw [show gi (C_3 0) 2 = gi (C 0) 2 from congrArg vi (f_4.2 2 (by decide))]; exact ht2
  have ht3 : ga (C_3 32) = ga (M 7) := Eq.trans (congrArg ga (f_4.1 32 rfl (by decide))) ht3
  have htK := htK.x (fr_all f_4 17 22 (by decide))
  have hAX : absX 10 C_3 A0 := absX_eq hAX (fun k k1 k2 => fr_all f_4 10 15 (by decide) k k1 (by omega))
  have hEX := ex_eq hEX (f_4.1 31 rfl (by decide))
  have hSX : absHX C_3 S0 := hx_fr hSX (f_4.1 29 rfl (by decide)) (f_4.1 30 rfl (by decide))
  refine W.widen (k := cN) (n := sN) (Nat.le_refl _) (Nat.le_refl _) ?_
  refine lv_pop hx hb dL_law_1658 rfl ?_
  refine lv_aload_n hx hb dL_law_1659 rfl (lv_at hl 1 rfl) ?_
  refine lv_aload_n hx hb dL_law_1660 rfl (lv_at hl 3 rfl) ?_
  refine lv_iload_n hx hb dL_law_1661 rfl (lv_at hl 0 rfl) ?_
  refine lv_iconst (v := 1) hx hb dL_law_1662 (by decide) ?_
  refine lv_iadd hx hb dL_law_1663 ?_
  refine va_sld hx hb hX hbl hbA hS (lw_ix hi hL (rg_c (v := 1) (lo := 1) (hi := 1) (by decide)) (by decide)) dL_law_1664 ?_
  refine lv_aload_n hx hb dL_law_1665 rfl (lv_at hl 3 rfl) ?_
  refine lv_iload_n hx hb dL_law_1666 rfl (lv_at hl 0 rfl) ?_
  refine lv_iconst (v := 2) hx hb dL_law_1667 (by decide) ?_
  refine lv_iadd hx hb dL_law_1668 ?_
  refine va_sld hx hb hX hbl hbA hS (lw_ix hi hL (rg_c (v := 2) (lo := 2) (hi := 2) (by decide)) (by decide)) dL_law_1669 ?_
  refine lv_aload_n hx hb dL_law_1670 rfl (lv_at hl 3 rfl) ?_
  refine lv_iload_n hx hb dL_law_1671 rfl (lv_at hl 0 rfl) ?_
  refine lv_iconst (v := 3) hx hb dL_law_1672 (by decide) ?_
  refine lv_iadd hx hb dL_law_1673 ?_
  refine va_sld hx hb hX hbl hbA hS (lw_ix hi hL (rg_c (v := 3) (lo := 3) (hi := 3) (by decide)) (by decide)) dL_law_1674 ?_
  refine lw_cM (As := [.int (xs ((nI i) + 1).toNatClampNeg), .int (xs ((nI i) + 2).toNatClampNeg), .int (xs ((nI i) + 3).toNatClampNeg)]) (rest := []) ⟨hx, hb, hml, hown, htg⟩ (c_X7_reach l D E G _ ma M n hn hTM (xs ((nI i) + 1).toNatClampNeg) (xs ((nI i) + 2).toNatClampNeg) (xs ((nI i) + 3).toNatClampNeg) hR) (cwV 3 htg (oh_gV q_1389 q_1390 q_1391 q_73 q_1392) rfl rfl rfl pdVX7_reach ⟨Nat.le_of_ble_eq_true rfl, Nat.le_of_ble_eq_true rfl⟩) hK hP hD hG hS hA (va_recv hK (oh_suf_P hP) (ci := 7) (q0 := 0) rfl (oh_wg (by omega) (sM_0 hTM))) rfl hl.1 rfl (Nat.le_of_ble_eq_true rfl) dL_law_1675 ⟨show cN + 0 ≤ 600000 by omega, show sN + 0 ≤ 7302250 by omega⟩ (fun r_5 M_7 H locs hq_6 hP hD hS => ?_)
  have hTM0 := hTM
  obtain ⟨hTM, f_8, hR⟩ := hq_6
  have hkp := kept_fr hkp f_8 (by decide)
  have ht1 : gi (C_3 5) 1 = gi (M_7 0) 7 := by rw [show gi (M_7 0) 7 = gi (M 0) 7 from congrArg vi (f_8.2 7 (by decide))]; exact ht1
  have ht3 : ga (C_3 32) = ga (M_7 7) := Eq.trans ht3 (congrArg ga (f_8.1 7 rfl (by decide))).symm
  have htK := htK.m f_8 (by decide)
  have hAM : absM M_7 A0 := absM_fr hAM hTM0 f_8 (by decide) (by decide) (by decide)
  have hEM := em_eq hEM (fun s hs => f_8.1 (16 + s) (inR_out hs (by decide)) (by omega))
  have hSM : absHM M_7 S0 := hm_fr hSM (f_8.1 1 rfl (by decide)) (f_8.1 2 rfl (by decide)) (f_8.1 3 rfl (by decide)) (f_8.1 6 rfl (by decide))
  refine W.widen (k := cN) (n := sN) (Nat.le_refl _) (Nat.le_refl _) ?_
  refine lv_pop hx hb dL_law_1678 rfl ?_
  refine lv_goto (tgt := 2046) hx hb dL_law_1679 (by decide) ?_
  exact kk ma C_3 M_7 n (cN) (sN) H locs ls hT hTM hR hkp ht1 ht2 ht3 ⟨_, hAX, hAM, _, _, hSX, hSM, hEX, hEM⟩ htK (by omega) (by omega) hP hD hS hl

set_option maxHeartbeats 4000000 in
set_option maxRecDepth 100000 in
/-- the law at a call of hang -/
theorem lc_hang {p : Program} {e : Env} {s : State} {m : MethodId} {below : List Frame} {meth : Method} {c : Code} (l : Launch) {b L : Nat} {xs : Nat → Int32} (C0 : lw_At p s m meth c b L xs) (hL : L ≤ 4096) {D : va_G} {E : Nat → ClassId} {G : Nat → Nat} {A : Nat → Prop} (hAe : A = fun q => s.heap.size ≤ q) (hK : va_K D vwCl (oh_ty E) s) (hG : oh_G G A s) {a : Nat → Nat} {i : Nat} (hi : i + 8 ≤ L) {ma : Nat → Nat} {C M : Nat → va_E} {n cN sN : Nat} (hT : TyX a E C) (hTM : TyM ma E M) (hR : RelM M) (hkp : KEPT E n ma M) (ht1 : gi (C 5) 1 = gi (M 0) 7) (ht2 : gi (C 0) 2 = 0 ↔ n = 74) (ht3 : ga (C 32) = ga (M 7)) (htA : ∃ A0 : LA, absX 10 C A0 ∧ absM M A0 ∧ ∃ (S0 : HZ) (Z0 : EZ), absHX C S0 ∧ absHM M S0 ∧ absEX C S0 Z0 ∧ absEM M S0 Z0) (htK : TIEK n C M) (hcN : cN ≤ 35 + n) (hsN : sN ≤ 1477 + 16 * n) {H : Heap} {locs : List Loc} (hP : va_P D vwCl (oh_W 35 a C ++ oh_W n ma M) H) (hD : va_D A (oh_W 35 a C ++ oh_W n ma M)) (hS : va_S A s.heap H locs) {ls : Array Slot} (hl : lv_has ls 4 [(3, .int (nI i)), (2, .ref (ma 0)), (1, .ref (a 0)), (0, .ref b)]) (kk : ∀ (ma : Nat → Nat) (C M : Nat → va_E) (n cN sN : Nat) (H : Heap) (locs : List Loc) (ls : Array Slot), TyX a E C → TyM ma E M → RelM M → KEPT E n ma M → gi (C 5) 1 = gi (M 0) 7 → (gi (C 0) 2 = 0 ↔ n = 74) → ga (C 32) = ga (M 7) → (∃ A0 : LA, absX 10 C A0 ∧ absM M A0 ∧ ∃ (S0 : HZ) (Z0 : EZ), absHX C S0 ∧ absHM M S0 ∧ absEX C S0 Z0 ∧ absEM M S0 Z0) → TIEK n C M → cN ≤ 35 + n → sN ≤ 1477 + 16 * n → va_P D vwCl (oh_W 35 a C ++ oh_W n ma M) H → va_D A (oh_W 35 a C ++ oh_W n ma M) → va_S A s.heap H locs → lv_has ls 4 [(3, .int (nI i)), (2, .ref (ma 0)), (1, .ref (a 0)), (0, .ref b)] → W p l e room_1 s m #[Value.ref b] below meth c H locs cN sN (lw_Z below #[Value.ref b] s) (F0 m 2046 ls [])) : W p l e room_1 s m #[Value.ref b] below meth c H locs cN sN (lw_Z below #[Value.ref b] s) (F0 m 1682 ls []) := by
  obtain ⟨hx, hb, hr, hml, hown, hts, hX, hbl, hlocks, hgv⟩ := id C0
  have hown : s.vm.findClass RL = some m.cls := hown
  have htg : ∀ w ∈ oh_t, w.before _ s = true := fun w h => hts w (List.mem_filter.mp h).1
  have hA : ∀ q, s.heap.size ≤ q → A q := fun q h => by rw [hAe]; exact h
  have hbA : ¬ A b := by rw [hAe]; exact Nat.not_le.mpr hbl
  have hn := hkp.le.1
  have hn8 := hkp.le.2
  have ht10 := ht1
  have ht20 := ht2
  have ht30 := ht3
  obtain ⟨A0, hAX, hAM, S0, Z0, hSX, hSM, hEX, hEM⟩ := htA
  have hAX0 := hAX
  have hAM0 := hAM
  have htK0 := htK
  have hSX0 := hSX
  have hSM0 := hSM
  have hEX0 := hEX
  have hEM0 := hEM
  refine lv_aload_n hx hb dL_law_1682 rfl (lv_at hl 2 rfl) ?_
  refine lv_aload_n hx hb dL_law_1683 rfl (lv_at hl 3 rfl) ?_
  refine lv_iload_n hx hb dL_law_1684 rfl (lv_at hl 0 rfl) ?_
  refine lv_iconst (v := 1) hx hb dL_law_1685 (by decide) ?_
  refine lv_iadd hx hb dL_law_1686 ?_
  refine va_sld hx hb hX hbl hbA hS (lw_ix hi hL (rg_c (v := 1) (lo := 1) (hi := 1) (by decide)) (by decide)) dL_law_1687 ?_
  refine lv_aload_n hx hb dL_law_1688 rfl (lv_at hl 3 rfl) ?_
  refine lv_iload_n hx hb dL_law_1689 rfl (lv_at hl 0 rfl) ?_
  refine lv_iconst (v := 2) hx hb dL_law_1690 (by decide) ?_
  refine lv_iadd hx hb dL_law_1691 ?_
  refine va_sld hx hb hX hbl hbA hS (lw_ix hi hL (rg_c (v := 2) (lo := 2) (hi := 2) (by decide)) (by decide)) dL_law_1692 ?_
  refine lv_aload_n hx hb dL_law_1693 rfl (lv_at hl 3 rfl) ?_
  refine lv_iload_n hx hb dL_law_1694 rfl (lv_at hl 0 rfl) ?_
  refine lv_iconst (v := 3) hx hb dL_law_1695 (by decide) ?_
  refine lv_iadd hx hb dL_law_1696 ?_
  refine va_sld hx hb hX hbl hbA hS (lw_ix hi hL (rg_c (v := 3) (lo := 3) (hi := 3) (by decide)) (by decide)) dL_law_1697 ?_
  refine lv_aload_n hx hb dL_law_1698 rfl (lv_at hl 3 rfl) ?_
  refine lv_iload_n hx hb dL_law_1699 rfl (lv_at hl 0 rfl) ?_
  refine lv_iconst (v := 4) hx hb dL_law_1700 (by decide) ?_
  refine lv_iadd hx hb dL_law_1701 ?_
  refine va_sld hx hb hX hbl hbA hS (lw_ix hi hL (rg_c (v := 4) (lo := 4) (hi := 4) (by decide)) (by decide)) dL_law_1702 ?_
  refine lw_cX (As := [.int (xs ((nI i) + 1).toNatClampNeg), .int (xs ((nI i) + 2).toNatClampNeg), .int (xs ((nI i) + 3).toNatClampNeg), .int (xs ((nI i) + 4).toNatClampNeg)]) (rest := []) ⟨hx, hb, hml, hown, htg⟩ (e_X6_hang l D E G _ a C hT (xs ((nI i) + 1).toNatClampNeg) (xs ((nI i) + 2).toNatClampNeg) (xs ((nI i) + 3).toNatClampNeg) (xs ((nI i) + 4).toNatClampNeg)) (cwV 4 htg (oh_gV q_868 q_869 q_870 q_66 q_871) rfl rfl rfl pdVX6_hang ⟨Nat.le_of_ble_eq_true rfl, Nat.le_of_ble_eq_true rfl⟩) hK hP hD hG hS hA (va_recv hK (oh_pre_P hP) (ci := 6) (q0 := 0) rfl (oh_wg (by decide) (sX_0 hT))) rfl hl.1 rfl (Nat.le_of_ble_eq_true rfl) dL_law_1703 ⟨show cN + 0 ≤ 600000 by omega, show sN + 0 ≤ 7302250 by omega⟩ (fun r_1 C_3 H locs hq_2 hP hD hS => ?_)
  obtain ⟨hT, f_4, hq_2⟩ := hq_2
  have ht1 : gi (C_3 5) 1 = gi (M 0) 7 := by rw [f_4.1 5 rfl (by decide)]; exact ht1
  have ht2 : gi (C_3 0) 2 = 0 ↔ n = 74 := by rw [show gi (C_3 0) 2 = gi (C 0) 2 from congrArg vi (f_4.2 2 (by decide))]; exact ht2
  have ht3 : ga (C_3 32) = ga (M 7) := Eq.trans (congrArg ga (f_4.1 32 rfl (by decide))) ht3
  have htK := htK.x (fr_all f_4 17 22 (by decide))
  have hAX : absX 10 C_3 A0 := absX_g1 12 hAX f_4 hq_2 (by decide)
  have hEX := ex_eq hEX (f_4.1 31 rfl (by decide))
  have hSX : absHX C_3 S0 := hx_fr hSX (f_4.1 29 rfl (by decide)) (f_4.1 30 rfl (by decide))
  refine W.widen (k := cN) (n := sN) (Nat.le_refl _) (Nat.le_refl _) ?_
  refine lv_pop hx hb dL_law_1706 rfl ?_
  refine lv_aload_n hx hb dL_law_1707 rfl (lv_at hl 1 rfl) ?_
  refine lv_aload_n hx hb dL_law_1708 rfl (lv_at hl 3 rfl) ?_
  refine lv_iload_n hx hb dL_law_1709 rfl (lv_at hl 0 rfl) ?_
  refine lv_iconst (v := 1) hx hb dL_law_1710 (by decide) ?_
  refine lv_iadd hx hb dL_law_1711 ?_
  refine va_sld hx hb hX hbl hbA hS (lw_ix hi hL (rg_c (v := 1) (lo := 1) (hi := 1) (by decide)) (by decide)) dL_law_1712 ?_
  refine lv_aload_n hx hb dL_law_1713 rfl (lv_at hl 3 rfl) ?_
  refine lv_iload_n hx hb dL_law_1714 rfl (lv_at hl 0 rfl) ?_
  refine lv_iconst (v := 2) hx hb dL_law_1715 (by decide) ?_
  refine lv_iadd hx hb dL_law_1716 ?_
  refine va_sld hx hb hX hbl hbA hS (lw_ix hi hL (rg_c (v := 2) (lo := 2) (hi := 2) (by decide)) (by decide)) dL_law_1717 ?_
  refine lv_aload_n hx hb dL_law_1718 rfl (lv_at hl 3 rfl) ?_
  refine lv_iload_n hx hb dL_law_1719 rfl (lv_at hl 0 rfl) ?_
  refine lv_iconst (v := 3) hx hb dL_law_1720 (by decide) ?_
  refine lv_iadd hx hb dL_law_1721 ?_
  refine va_sld hx hb hX hbl hbA hS (lw_ix hi hL (rg_c (v := 3) (lo := 3) (hi := 3) (by decide)) (by decide)) dL_law_1722 ?_
  refine lv_aload_n hx hb dL_law_1723 rfl (lv_at hl 3 rfl) ?_
  refine lv_iload_n hx hb dL_law_1724 rfl (lv_at hl 0 rfl) ?_
  refine lv_iconst (v := 4) hx hb dL_law_1725 (by decide) ?_
  refine lv_iadd hx hb dL_law_1726 ?_
  refine va_sld hx hb hX hbl hbA hS (lw_ix hi hL (rg_c (v := 4) (lo := 4) (hi := 4) (by decide)) (by decide)) dL_law_1727 ?_
  refine lw_cM (As := [.int (xs ((nI i) + 1).toNatClampNeg), .int (xs ((nI i) + 2).toNatClampNeg), .int (xs ((nI i) + 3).toNatClampNeg), .int (xs ((nI i) + 4).toNatClampNeg)]) (rest := []) ⟨hx, hb, hml, hown, htg⟩ (e_X7_hang l D E G _ ma M n hn hTM (xs ((nI i) + 1).toNatClampNeg) (xs ((nI i) + 2).toNatClampNeg) (xs ((nI i) + 3).toNatClampNeg) (xs ((nI i) + 4).toNatClampNeg) hR) (cwV 4 htg (oh_gV q_1393 q_1394 q_1395 q_73 q_1396) rfl rfl rfl pdVX7_hang ⟨Nat.le_of_ble_eq_true rfl, Nat.le_of_ble_eq_true rfl⟩) hK hP hD hG hS hA (va_recv hK (oh_suf_P hP) (ci := 7) (q0 := 0) rfl (oh_wg (by omega) (sM_0 hTM))) rfl hl.1 rfl (Nat.le_of_ble_eq_true rfl) dL_law_1728 ⟨show cN + 0 ≤ 600000 by omega, show sN + 0 ≤ 7302250 by omega⟩ (fun r_5 M_7 H locs hq_6 hP hD hS => ?_)
  have hTM0 := hTM
  obtain ⟨hTM, f_8, hR, hq_6⟩ := hq_6
  have hkp := kept_fr hkp f_8 (by decide)
  have ht1 : gi (C_3 5) 1 = gi (M_7 0) 7 := by rw [show gi (M_7 0) 7 = gi (M 0) 7 from congrArg vi (f_8.2 7 (by decide))]; exact ht1
  have ht3 : ga (C_3 32) = ga (M_7 7) := Eq.trans ht3 (congrArg ga (f_8.1 7 rfl (by decide))).symm
  have htK := htK.m f_8 (by decide)
  have hAM := hq_6 A0 hAM
  have hEM := em_eq hEM (fun s hs => f_8.1 (16 + s) (inR_out hs (by decide)) (by omega))
  have hSM : absHM M_7 S0 := hm_fr hSM (f_8.1 1 rfl (by decide)) (f_8.1 2 rfl (by decide)) (f_8.1 3 rfl (by decide)) (f_8.1 6 rfl (by decide))
  refine W.widen (k := cN) (n := sN) (Nat.le_refl _) (Nat.le_refl _) ?_
  refine lv_pop hx hb dL_law_1731 rfl ?_
  refine lv_goto (tgt := 2046) hx hb dL_law_1732 (by decide) ?_
  exact kk ma C_3 M_7 n (cN) (sN) H locs ls hT hTM hR hkp ht1 ht2 ht3 ⟨_, hAX, hAM, _, _, hSX, hSM, hEX, hEM⟩ htK (by omega) (by omega) hP hD hS hl

set_option maxHeartbeats 4000000 in
set_option maxRecDepth 100000 in
/-- the law at a call of fewest -/
theorem lc_fewest {p : Program} {e : Env} {s : State} {m : MethodId} {below : List Frame} {meth : Method} {c : Code} (l : Launch) {b L : Nat} {xs : Nat → Int32} (C0 : lw_At p s m meth c b L xs) (hL : L ≤ 4096) {D : va_G} {E : Nat → ClassId} {G : Nat → Nat} {A : Nat → Prop} (hAe : A = fun q => s.heap.size ≤ q) (hK : va_K D vwCl (oh_ty E) s) (hG : oh_G G A s) {a : Nat → Nat} {i : Nat} (hi : i + 8 ≤ L) {ma : Nat → Nat} {C M : Nat → va_E} {n cN sN : Nat} (hT : TyX a E C) (hTM : TyM ma E M) (hR : RelM M) (hkp : KEPT E n ma M) (ht1 : gi (C 5) 1 = gi (M 0) 7) (ht2 : gi (C 0) 2 = 0 ↔ n = 74) (ht3 : ga (C 32) = ga (M 7)) (htA : ∃ A0 : LA, absX 10 C A0 ∧ absM M A0 ∧ ∃ (S0 : HZ) (Z0 : EZ), absHX C S0 ∧ absHM M S0 ∧ absEX C S0 Z0 ∧ absEM M S0 Z0) (htK : TIEK n C M) (hcN : cN ≤ 35 + n) (hsN : sN ≤ 1477 + 16 * n) {H : Heap} {locs : List Loc} (hP : va_P D vwCl (oh_W 35 a C ++ oh_W n ma M) H) (hD : va_D A (oh_W 35 a C ++ oh_W n ma M)) (hS : va_S A s.heap H locs) {ls : Array Slot} (hl : lv_has ls 4 [(3, .int (nI i)), (2, .ref (ma 0)), (1, .ref (a 0)), (0, .ref b)]) (kk : ∀ (ma : Nat → Nat) (C M : Nat → va_E) (n cN sN : Nat) (H : Heap) (locs : List Loc) (ls : Array Slot), TyX a E C → TyM ma E M → RelM M → KEPT E n ma M → gi (C 5) 1 = gi (M 0) 7 → (gi (C 0) 2 = 0 ↔ n = 74) → ga (C 32) = ga (M 7) → (∃ A0 : LA, absX 10 C A0 ∧ absM M A0 ∧ ∃ (S0 : HZ) (Z0 : EZ), absHX C S0 ∧ absHM M S0 ∧ absEX C S0 Z0 ∧ absEM M S0 Z0) → TIEK n C M → cN ≤ 35 + n → sN ≤ 1477 + 16 * n → va_P D vwCl (oh_W 35 a C ++ oh_W n ma M) H → va_D A (oh_W 35 a C ++ oh_W n ma M) → va_S A s.heap H locs → lv_has ls 4 [(3, .int (nI i)), (2, .ref (ma 0)), (1, .ref (a 0)), (0, .ref b)] → W p l e room_1 s m #[Value.ref b] below meth c H locs cN sN (lw_Z below #[Value.ref b] s) (F0 m 2046 ls [])) : W p l e room_1 s m #[Value.ref b] below meth c H locs cN sN (lw_Z below #[Value.ref b] s) (F0 m 1735 ls []) := by
  obtain ⟨hx, hb, hr, hml, hown, hts, hX, hbl, hlocks, hgv⟩ := id C0
  have hown : s.vm.findClass RL = some m.cls := hown
  have htg : ∀ w ∈ oh_t, w.before _ s = true := fun w h => hts w (List.mem_filter.mp h).1
  have hA : ∀ q, s.heap.size ≤ q → A q := fun q h => by rw [hAe]; exact h
  have hbA : ¬ A b := by rw [hAe]; exact Nat.not_le.mpr hbl
  have hn := hkp.le.1
  have hn8 := hkp.le.2
  have ht10 := ht1
  have ht20 := ht2
  have ht30 := ht3
  obtain ⟨A0, hAX, hAM, S0, Z0, hSX, hSM, hEX, hEM⟩ := htA
  have hAX0 := hAX
  have hAM0 := hAM
  have htK0 := htK
  have hSX0 := hSX
  have hSM0 := hSM
  have hEX0 := hEX
  have hEM0 := hEM
  refine lv_aload_n hx hb dL_law_1735 rfl (lv_at hl 2 rfl) ?_
  refine lv_aload_n hx hb dL_law_1736 rfl (lv_at hl 3 rfl) ?_
  refine lv_iload_n hx hb dL_law_1737 rfl (lv_at hl 0 rfl) ?_
  refine lv_iconst (v := 1) hx hb dL_law_1738 (by decide) ?_
  refine lv_iadd hx hb dL_law_1739 ?_
  refine va_sld hx hb hX hbl hbA hS (lw_ix hi hL (rg_c (v := 1) (lo := 1) (hi := 1) (by decide)) (by decide)) dL_law_1740 ?_
  refine lv_aload_n hx hb dL_law_1741 rfl (lv_at hl 3 rfl) ?_
  refine lv_iload_n hx hb dL_law_1742 rfl (lv_at hl 0 rfl) ?_
  refine lv_iconst (v := 2) hx hb dL_law_1743 (by decide) ?_
  refine lv_iadd hx hb dL_law_1744 ?_
  refine va_sld hx hb hX hbl hbA hS (lw_ix hi hL (rg_c (v := 2) (lo := 2) (hi := 2) (by decide)) (by decide)) dL_law_1745 ?_
  refine lv_aload_n hx hb dL_law_1746 rfl (lv_at hl 3 rfl) ?_
  refine lv_iload_n hx hb dL_law_1747 rfl (lv_at hl 0 rfl) ?_
  refine lv_iconst (v := 3) hx hb dL_law_1748 (by decide) ?_
  refine lv_iadd hx hb dL_law_1749 ?_
  refine va_sld hx hb hX hbl hbA hS (lw_ix hi hL (rg_c (v := 3) (lo := 3) (hi := 3) (by decide)) (by decide)) dL_law_1750 ?_
  refine lw_cX (As := [.int (xs ((nI i) + 1).toNatClampNeg), .int (xs ((nI i) + 2).toNatClampNeg), .int (xs ((nI i) + 3).toNatClampNeg)]) (rest := []) ⟨hx, hb, hml, hown, htg⟩ (c_X6_fewest l D E G _ a C hT (xs ((nI i) + 1).toNatClampNeg) (xs ((nI i) + 2).toNatClampNeg) (xs ((nI i) + 3).toNatClampNeg)) (cwV 3 htg (oh_gV q_876 q_877 q_878 q_66 q_879) rfl rfl rfl pdVX6_fewest ⟨Nat.le_of_ble_eq_true rfl, Nat.le_of_ble_eq_true rfl⟩) hK hP hD hG hS hA (va_recv hK (oh_pre_P hP) (ci := 6) (q0 := 0) rfl (oh_wg (by decide) (sX_0 hT))) rfl hl.1 rfl (Nat.le_of_ble_eq_true rfl) dL_law_1751 ⟨show cN + 0 ≤ 600000 by omega, show sN + 0 ≤ 7302250 by omega⟩ (fun r_1 C_3 H locs hq_2 hP hD hS => ?_)
  obtain ⟨hT, f_4, hq_2⟩ := hq_2
  have ht1 : gi (C_3 5) 1 = gi (M 0) 7 := by rw [f_4.1 5 rfl (by decide)]; exact ht1
  have ht2 : gi (C_3 0) 2 = 0 ↔ n = 74 := by rw [show gi (C_3 0) 2 = gi (C 0) 2 from congrArg vi (f_4.2 2 (by decide))]; exact ht2
  have ht3 : ga (C_3 32) = ga (M 7) := Eq.trans (congrArg ga (f_4.1 32 rfl (by decide))) ht3
  have htK := htK.x (fr_all f_4 17 22 (by decide))
  have hAX : absX 10 C_3 A0 := absX_eq hAX (fun k k1 k2 => fr_all f_4 10 15 (by decide) k k1 (by omega))
  have hEX := ex_eq hEX (f_4.1 31 rfl (by decide))
  have hSX : absHX C_3 S0 := hx_fr hSX (f_4.1 29 rfl (by decide)) (f_4.1 30 rfl (by decide))
  refine W.widen (k := cN) (n := sN) (Nat.le_refl _) (Nat.le_refl _) ?_
  refine lv_pop hx hb dL_law_1754 rfl ?_
  refine lv_aload_n hx hb dL_law_1755 rfl (lv_at hl 1 rfl) ?_
  refine lv_aload_n hx hb dL_law_1756 rfl (lv_at hl 3 rfl) ?_
  refine lv_iload_n hx hb dL_law_1757 rfl (lv_at hl 0 rfl) ?_
  refine lv_iconst (v := 1) hx hb dL_law_1758 (by decide) ?_
  refine lv_iadd hx hb dL_law_1759 ?_
  refine va_sld hx hb hX hbl hbA hS (lw_ix hi hL (rg_c (v := 1) (lo := 1) (hi := 1) (by decide)) (by decide)) dL_law_1760 ?_
  refine lv_aload_n hx hb dL_law_1761 rfl (lv_at hl 3 rfl) ?_
  refine lv_iload_n hx hb dL_law_1762 rfl (lv_at hl 0 rfl) ?_
  refine lv_iconst (v := 2) hx hb dL_law_1763 (by decide) ?_
  refine lv_iadd hx hb dL_law_1764 ?_
  refine va_sld hx hb hX hbl hbA hS (lw_ix hi hL (rg_c (v := 2) (lo := 2) (hi := 2) (by decide)) (by decide)) dL_law_1765 ?_
  refine lv_aload_n hx hb dL_law_1766 rfl (lv_at hl 3 rfl) ?_
  refine lv_iload_n hx hb dL_law_1767 rfl (lv_at hl 0 rfl) ?_
  refine lv_iconst (v := 3) hx hb dL_law_1768 (by decide) ?_
  refine lv_iadd hx hb dL_law_1769 ?_
  refine va_sld hx hb hX hbl hbA hS (lw_ix hi hL (rg_c (v := 3) (lo := 3) (hi := 3) (by decide)) (by decide)) dL_law_1770 ?_
  refine lw_cM (As := [.int (xs ((nI i) + 1).toNatClampNeg), .int (xs ((nI i) + 2).toNatClampNeg), .int (xs ((nI i) + 3).toNatClampNeg)]) (rest := []) ⟨hx, hb, hml, hown, htg⟩ (c_X7_fewest l D E G _ ma M n hn hTM (xs ((nI i) + 1).toNatClampNeg) (xs ((nI i) + 2).toNatClampNeg) (xs ((nI i) + 3).toNatClampNeg) hR) (cwV 3 htg (oh_gV q_1397 q_1398 q_1399 q_73 q_1400) rfl rfl rfl pdVX7_fewest ⟨Nat.le_of_ble_eq_true rfl, Nat.le_of_ble_eq_true rfl⟩) hK hP hD hG hS hA (va_recv hK (oh_suf_P hP) (ci := 7) (q0 := 0) rfl (oh_wg (by omega) (sM_0 hTM))) rfl hl.1 rfl (Nat.le_of_ble_eq_true rfl) dL_law_1771 ⟨show cN + 0 ≤ 600000 by omega, show sN + 0 ≤ 7302250 by omega⟩ (fun r_5 M_7 H locs hq_6 hP hD hS => ?_)
  have hTM0 := hTM
  obtain ⟨hTM, f_8, hR⟩ := hq_6
  have hkp := kept_fr hkp f_8 (by decide)
  have ht1 : gi (C_3 5) 1 = gi (M_7 0) 7 := by rw [show gi (M_7 0) 7 = gi (M 0) 7 from congrArg vi (f_8.2 7 (by decide))]; exact ht1
  have ht3 : ga (C_3 32) = ga (M_7 7) := Eq.trans ht3 (congrArg ga (f_8.1 7 rfl (by decide))).symm
  have htK := htK.m f_8 (by decide)
  have hAM : absM M_7 A0 := absM_fr hAM hTM0 f_8 (by decide) (by decide) (by decide)
  have hEM := em_eq hEM (fun s hs => f_8.1 (16 + s) (inR_out hs (by decide)) (by omega))
  have hSM : absHM M_7 S0 := hm_fr hSM (f_8.1 1 rfl (by decide)) (f_8.1 2 rfl (by decide)) (f_8.1 3 rfl (by decide)) (f_8.1 6 rfl (by decide))
  refine W.widen (k := cN) (n := sN) (Nat.le_refl _) (Nat.le_refl _) ?_
  refine lv_pop hx hb dL_law_1774 rfl ?_
  refine lv_goto (tgt := 2046) hx hb dL_law_1775 (by decide) ?_
  exact kk ma C_3 M_7 n (cN) (sN) H locs ls hT hTM hR hkp ht1 ht2 ht3 ⟨_, hAX, hAM, _, _, hSX, hSM, hEX, hEM⟩ htK (by omega) (by omega) hP hD hS hl

set_option maxHeartbeats 4000000 in
set_option maxRecDepth 100000 in
/-- the law at a call of most -/
theorem lc_most {p : Program} {e : Env} {s : State} {m : MethodId} {below : List Frame} {meth : Method} {c : Code} (l : Launch) {b L : Nat} {xs : Nat → Int32} (C0 : lw_At p s m meth c b L xs) (hL : L ≤ 4096) {D : va_G} {E : Nat → ClassId} {G : Nat → Nat} {A : Nat → Prop} (hAe : A = fun q => s.heap.size ≤ q) (hK : va_K D vwCl (oh_ty E) s) (hG : oh_G G A s) {a : Nat → Nat} {i : Nat} (hi : i + 8 ≤ L) {ma : Nat → Nat} {C M : Nat → va_E} {n cN sN : Nat} (hT : TyX a E C) (hTM : TyM ma E M) (hR : RelM M) (hkp : KEPT E n ma M) (ht1 : gi (C 5) 1 = gi (M 0) 7) (ht2 : gi (C 0) 2 = 0 ↔ n = 74) (ht3 : ga (C 32) = ga (M 7)) (htA : ∃ A0 : LA, absX 10 C A0 ∧ absM M A0 ∧ ∃ (S0 : HZ) (Z0 : EZ), absHX C S0 ∧ absHM M S0 ∧ absEX C S0 Z0 ∧ absEM M S0 Z0) (htK : TIEK n C M) (hcN : cN ≤ 35 + n) (hsN : sN ≤ 1477 + 16 * n) {H : Heap} {locs : List Loc} (hP : va_P D vwCl (oh_W 35 a C ++ oh_W n ma M) H) (hD : va_D A (oh_W 35 a C ++ oh_W n ma M)) (hS : va_S A s.heap H locs) {ls : Array Slot} (hl : lv_has ls 4 [(3, .int (nI i)), (2, .ref (ma 0)), (1, .ref (a 0)), (0, .ref b)]) (kk : ∀ (ma : Nat → Nat) (C M : Nat → va_E) (n cN sN : Nat) (H : Heap) (locs : List Loc) (ls : Array Slot), TyX a E C → TyM ma E M → RelM M → KEPT E n ma M → gi (C 5) 1 = gi (M 0) 7 → (gi (C 0) 2 = 0 ↔ n = 74) → ga (C 32) = ga (M 7) → (∃ A0 : LA, absX 10 C A0 ∧ absM M A0 ∧ ∃ (S0 : HZ) (Z0 : EZ), absHX C S0 ∧ absHM M S0 ∧ absEX C S0 Z0 ∧ absEM M S0 Z0) → TIEK n C M → cN ≤ 35 + n → sN ≤ 1477 + 16 * n → va_P D vwCl (oh_W 35 a C ++ oh_W n ma M) H → va_D A (oh_W 35 a C ++ oh_W n ma M) → va_S A s.heap H locs → lv_has ls 4 [(3, .int (nI i)), (2, .ref (ma 0)), (1, .ref (a 0)), (0, .ref b)] → W p l e room_1 s m #[Value.ref b] below meth c H locs cN sN (lw_Z below #[Value.ref b] s) (F0 m 2046 ls [])) : W p l e room_1 s m #[Value.ref b] below meth c H locs cN sN (lw_Z below #[Value.ref b] s) (F0 m 1778 ls []) := by
  obtain ⟨hx, hb, hr, hml, hown, hts, hX, hbl, hlocks, hgv⟩ := id C0
  have hown : s.vm.findClass RL = some m.cls := hown
  have htg : ∀ w ∈ oh_t, w.before _ s = true := fun w h => hts w (List.mem_filter.mp h).1
  have hA : ∀ q, s.heap.size ≤ q → A q := fun q h => by rw [hAe]; exact h
  have hbA : ¬ A b := by rw [hAe]; exact Nat.not_le.mpr hbl
  have hn := hkp.le.1
  have hn8 := hkp.le.2
  have ht10 := ht1
  have ht20 := ht2
  have ht30 := ht3
  obtain ⟨A0, hAX, hAM, S0, Z0, hSX, hSM, hEX, hEM⟩ := htA
  have hAX0 := hAX
  have hAM0 := hAM
  have htK0 := htK
  have hSX0 := hSX
  have hSM0 := hSM
  have hEX0 := hEX
  have hEM0 := hEM
  refine lv_aload_n hx hb dL_law_1778 rfl (lv_at hl 2 rfl) ?_
  refine lv_aload_n hx hb dL_law_1779 rfl (lv_at hl 3 rfl) ?_
  refine lv_iload_n hx hb dL_law_1780 rfl (lv_at hl 0 rfl) ?_
  refine lv_iconst (v := 1) hx hb dL_law_1781 (by decide) ?_
  refine lv_iadd hx hb dL_law_1782 ?_
  refine va_sld hx hb hX hbl hbA hS (lw_ix hi hL (rg_c (v := 1) (lo := 1) (hi := 1) (by decide)) (by decide)) dL_law_1783 ?_
  refine lv_aload_n hx hb dL_law_1784 rfl (lv_at hl 3 rfl) ?_
  refine lv_iload_n hx hb dL_law_1785 rfl (lv_at hl 0 rfl) ?_
  refine lv_iconst (v := 2) hx hb dL_law_1786 (by decide) ?_
  refine lv_iadd hx hb dL_law_1787 ?_
  refine va_sld hx hb hX hbl hbA hS (lw_ix hi hL (rg_c (v := 2) (lo := 2) (hi := 2) (by decide)) (by decide)) dL_law_1788 ?_
  refine lv_aload_n hx hb dL_law_1789 rfl (lv_at hl 3 rfl) ?_
  refine lv_iload_n hx hb dL_law_1790 rfl (lv_at hl 0 rfl) ?_
  refine lv_iconst (v := 3) hx hb dL_law_1791 (by decide) ?_
  refine lv_iadd hx hb dL_law_1792 ?_
  refine va_sld hx hb hX hbl hbA hS (lw_ix hi hL (rg_c (v := 3) (lo := 3) (hi := 3) (by decide)) (by decide)) dL_law_1793 ?_
  refine lw_cX (As := [.int (xs ((nI i) + 1).toNatClampNeg), .int (xs ((nI i) + 2).toNatClampNeg), .int (xs ((nI i) + 3).toNatClampNeg)]) (rest := []) ⟨hx, hb, hml, hown, htg⟩ (e_X6_most l D E G _ a C hT (xs ((nI i) + 1).toNatClampNeg) (xs ((nI i) + 2).toNatClampNeg) (xs ((nI i) + 3).toNatClampNeg)) (cwV 3 htg (oh_gV q_885 q_886 q_887 q_66 q_888) rfl rfl rfl pdVX6_most ⟨Nat.le_of_ble_eq_true rfl, Nat.le_of_ble_eq_true rfl⟩) hK hP hD hG hS hA (va_recv hK (oh_pre_P hP) (ci := 6) (q0 := 0) rfl (oh_wg (by decide) (sX_0 hT))) rfl hl.1 rfl (Nat.le_of_ble_eq_true rfl) dL_law_1794 ⟨show cN + 0 ≤ 600000 by omega, show sN + 0 ≤ 7302250 by omega⟩ (fun r_1 C_3 H locs hq_2 hP hD hS => ?_)
  obtain ⟨hT, f_4, hq_2⟩ := hq_2
  have ht1 : gi (C_3 5) 1 = gi (M 0) 7 := by rw [f_4.1 5 rfl (by decide)]; exact ht1
  have ht2 : gi (C_3 0) 2 = 0 ↔ n = 74 := by rw [show gi (C_3 0) 2 = gi (C 0) 2 from congrArg vi (f_4.2 2 (by decide))]; exact ht2
  have ht3 : ga (C_3 32) = ga (M 7) := Eq.trans (congrArg ga (f_4.1 32 rfl (by decide))) ht3
  have htK := htK.x (fr_all f_4 17 22 (by decide))
  have hAX : absX 10 C_3 A0 := absX_g1 15 hAX f_4 hq_2 (by decide)
  have hEX := ex_eq hEX (f_4.1 31 rfl (by decide))
  have hSX : absHX C_3 S0 := hx_fr hSX (f_4.1 29 rfl (by decide)) (f_4.1 30 rfl (by decide))
  refine W.widen (k := cN) (n := sN) (Nat.le_refl _) (Nat.le_refl _) ?_
  refine lv_pop hx hb dL_law_1797 rfl ?_
  refine lv_aload_n hx hb dL_law_1798 rfl (lv_at hl 1 rfl) ?_
  refine lv_aload_n hx hb dL_law_1799 rfl (lv_at hl 3 rfl) ?_
  refine lv_iload_n hx hb dL_law_1800 rfl (lv_at hl 0 rfl) ?_
  refine lv_iconst (v := 1) hx hb dL_law_1801 (by decide) ?_
  refine lv_iadd hx hb dL_law_1802 ?_
  refine va_sld hx hb hX hbl hbA hS (lw_ix hi hL (rg_c (v := 1) (lo := 1) (hi := 1) (by decide)) (by decide)) dL_law_1803 ?_
  refine lv_aload_n hx hb dL_law_1804 rfl (lv_at hl 3 rfl) ?_
  refine lv_iload_n hx hb dL_law_1805 rfl (lv_at hl 0 rfl) ?_
  refine lv_iconst (v := 2) hx hb dL_law_1806 (by decide) ?_
  refine lv_iadd hx hb dL_law_1807 ?_
  refine va_sld hx hb hX hbl hbA hS (lw_ix hi hL (rg_c (v := 2) (lo := 2) (hi := 2) (by decide)) (by decide)) dL_law_1808 ?_
  refine lv_aload_n hx hb dL_law_1809 rfl (lv_at hl 3 rfl) ?_
  refine lv_iload_n hx hb dL_law_1810 rfl (lv_at hl 0 rfl) ?_
  refine lv_iconst (v := 3) hx hb dL_law_1811 (by decide) ?_
  refine lv_iadd hx hb dL_law_1812 ?_
  refine va_sld hx hb hX hbl hbA hS (lw_ix hi hL (rg_c (v := 3) (lo := 3) (hi := 3) (by decide)) (by decide)) dL_law_1813 ?_
  refine lw_cM (As := [.int (xs ((nI i) + 1).toNatClampNeg), .int (xs ((nI i) + 2).toNatClampNeg), .int (xs ((nI i) + 3).toNatClampNeg)]) (rest := []) ⟨hx, hb, hml, hown, htg⟩ (e_X7_most l D E G _ ma M n hn hTM (xs ((nI i) + 1).toNatClampNeg) (xs ((nI i) + 2).toNatClampNeg) (xs ((nI i) + 3).toNatClampNeg) hR) (cwV 3 htg (oh_gV q_1401 q_1402 q_1403 q_73 q_1404) rfl rfl rfl pdVX7_most ⟨Nat.le_of_ble_eq_true rfl, Nat.le_of_ble_eq_true rfl⟩) hK hP hD hG hS hA (va_recv hK (oh_suf_P hP) (ci := 7) (q0 := 0) rfl (oh_wg (by omega) (sM_0 hTM))) rfl hl.1 rfl (Nat.le_of_ble_eq_true rfl) dL_law_1814 ⟨show cN + 0 ≤ 600000 by omega, show sN + 0 ≤ 7302250 by omega⟩ (fun r_5 M_7 H locs hq_6 hP hD hS => ?_)
  have hTM0 := hTM
  obtain ⟨hTM, f_8, hR, hq_6⟩ := hq_6
  have hkp := kept_fr hkp f_8 (by decide)
  have ht1 : gi (C_3 5) 1 = gi (M_7 0) 7 := by rw [show gi (M_7 0) 7 = gi (M 0) 7 from congrArg vi (f_8.2 7 (by decide))]; exact ht1
  have ht3 : ga (C_3 32) = ga (M_7 7) := Eq.trans ht3 (congrArg ga (f_8.1 7 rfl (by decide))).symm
  have htK := htK.m f_8 (by decide)
  have hAM : absM M_7 A0 := absM_13 hAM hTM0 hq_6 f_8 (by decide) (by decide)
  have hEM := em_eq hEM (fun s hs => f_8.1 (16 + s) (inR_out hs (by decide)) (by omega))
  have hSM : absHM M_7 S0 := hm_fr hSM (f_8.1 1 rfl (by decide)) (f_8.1 2 rfl (by decide)) (f_8.1 3 rfl (by decide)) (f_8.1 6 rfl (by decide))
  refine W.widen (k := cN) (n := sN) (Nat.le_refl _) (Nat.le_refl _) ?_
  refine lv_pop hx hb dL_law_1817 rfl ?_
  refine lv_goto (tgt := 2046) hx hb dL_law_1818 (by decide) ?_
  exact kk ma C_3 M_7 n (cN) (sN) H locs ls hT hTM hR hkp ht1 ht2 ht3 ⟨_, hAX, hAM, _, _, hSX, hSM, hEX, hEM⟩ htK (by omega) (by omega) hP hD hS hl

set_option maxHeartbeats 4000000 in
set_option maxRecDepth 100000 in
/-- the law at a call of frost -/
theorem lc_frost {p : Program} {e : Env} {s : State} {m : MethodId} {below : List Frame} {meth : Method} {c : Code} (l : Launch) {b L : Nat} {xs : Nat → Int32} (C0 : lw_At p s m meth c b L xs) (hL : L ≤ 4096) {D : va_G} {E : Nat → ClassId} {G : Nat → Nat} {A : Nat → Prop} (hAe : A = fun q => s.heap.size ≤ q) (hK : va_K D vwCl (oh_ty E) s) (hG : oh_G G A s) {a : Nat → Nat} {i : Nat} (hi : i + 8 ≤ L) {ma : Nat → Nat} {C M : Nat → va_E} {n cN sN : Nat} (hT : TyX a E C) (hTM : TyM ma E M) (hR : RelM M) (hkp : KEPT E n ma M) (ht1 : gi (C 5) 1 = gi (M 0) 7) (ht2 : gi (C 0) 2 = 0 ↔ n = 74) (ht3 : ga (C 32) = ga (M 7)) (htA : ∃ A0 : LA, absX 10 C A0 ∧ absM M A0 ∧ ∃ (S0 : HZ) (Z0 : EZ), absHX C S0 ∧ absHM M S0 ∧ absEX C S0 Z0 ∧ absEM M S0 Z0) (htK : TIEK n C M) (hcN : cN ≤ 35 + n) (hsN : sN ≤ 1477 + 16 * n) {H : Heap} {locs : List Loc} (hP : va_P D vwCl (oh_W 35 a C ++ oh_W n ma M) H) (hD : va_D A (oh_W 35 a C ++ oh_W n ma M)) (hS : va_S A s.heap H locs) {ls : Array Slot} (hl : lv_has ls 4 [(3, .int (nI i)), (2, .ref (ma 0)), (1, .ref (a 0)), (0, .ref b)]) (kk : ∀ (ma : Nat → Nat) (C M : Nat → va_E) (n cN sN : Nat) (H : Heap) (locs : List Loc) (ls : Array Slot), TyX a E C → TyM ma E M → RelM M → KEPT E n ma M → gi (C 5) 1 = gi (M 0) 7 → (gi (C 0) 2 = 0 ↔ n = 74) → ga (C 32) = ga (M 7) → (∃ A0 : LA, absX 10 C A0 ∧ absM M A0 ∧ ∃ (S0 : HZ) (Z0 : EZ), absHX C S0 ∧ absHM M S0 ∧ absEX C S0 Z0 ∧ absEM M S0 Z0) → TIEK n C M → cN ≤ 35 + n → sN ≤ 1477 + 16 * n → va_P D vwCl (oh_W 35 a C ++ oh_W n ma M) H → va_D A (oh_W 35 a C ++ oh_W n ma M) → va_S A s.heap H locs → lv_has ls 4 [(3, .int (nI i)), (2, .ref (ma 0)), (1, .ref (a 0)), (0, .ref b)] → W p l e room_1 s m #[Value.ref b] below meth c H locs cN sN (lw_Z below #[Value.ref b] s) (F0 m 2046 ls [])) : W p l e room_1 s m #[Value.ref b] below meth c H locs cN sN (lw_Z below #[Value.ref b] s) (F0 m 1821 ls []) := by
  obtain ⟨hx, hb, hr, hml, hown, hts, hX, hbl, hlocks, hgv⟩ := id C0
  have hown : s.vm.findClass RL = some m.cls := hown
  have htg : ∀ w ∈ oh_t, w.before _ s = true := fun w h => hts w (List.mem_filter.mp h).1
  have hA : ∀ q, s.heap.size ≤ q → A q := fun q h => by rw [hAe]; exact h
  have hbA : ¬ A b := by rw [hAe]; exact Nat.not_le.mpr hbl
  have hn := hkp.le.1
  have hn8 := hkp.le.2
  have ht10 := ht1
  have ht20 := ht2
  have ht30 := ht3
  obtain ⟨A0, hAX, hAM, S0, Z0, hSX, hSM, hEX, hEM⟩ := htA
  have hAX0 := hAX
  have hAM0 := hAM
  have htK0 := htK
  have hSX0 := hSX
  have hSM0 := hSM
  have hEX0 := hEX
  have hEM0 := hEM
  refine lv_aload_n hx hb dL_law_1821 rfl (lv_at hl 2 rfl) ?_
  refine lv_aload_n hx hb dL_law_1822 rfl (lv_at hl 3 rfl) ?_
  refine lv_iload_n hx hb dL_law_1823 rfl (lv_at hl 0 rfl) ?_
  refine lv_iconst (v := 1) hx hb dL_law_1824 (by decide) ?_
  refine lv_iadd hx hb dL_law_1825 ?_
  refine va_sld hx hb hX hbl hbA hS (lw_ix hi hL (rg_c (v := 1) (lo := 1) (hi := 1) (by decide)) (by decide)) dL_law_1826 ?_
  refine lv_aload_n hx hb dL_law_1827 rfl (lv_at hl 3 rfl) ?_
  refine lv_iload_n hx hb dL_law_1828 rfl (lv_at hl 0 rfl) ?_
  refine lv_iconst (v := 2) hx hb dL_law_1829 (by decide) ?_
  refine lv_iadd hx hb dL_law_1830 ?_
  refine va_sld hx hb hX hbl hbA hS (lw_ix hi hL (rg_c (v := 2) (lo := 2) (hi := 2) (by decide)) (by decide)) dL_law_1831 ?_
  refine lv_aload_n hx hb dL_law_1832 rfl (lv_at hl 3 rfl) ?_
  refine lv_iload_n hx hb dL_law_1833 rfl (lv_at hl 0 rfl) ?_
  refine lv_iconst (v := 3) hx hb dL_law_1834 (by decide) ?_
  refine lv_iadd hx hb dL_law_1835 ?_
  refine va_sld hx hb hX hbl hbA hS (lw_ix hi hL (rg_c (v := 3) (lo := 3) (hi := 3) (by decide)) (by decide)) dL_law_1836 ?_
  refine lv_aload_n hx hb dL_law_1837 rfl (lv_at hl 3 rfl) ?_
  refine lv_iload_n hx hb dL_law_1838 rfl (lv_at hl 0 rfl) ?_
  refine lv_iconst (v := 4) hx hb dL_law_1839 (by decide) ?_
  refine lv_iadd hx hb dL_law_1840 ?_
  refine va_sld hx hb hX hbl hbA hS (lw_ix hi hL (rg_c (v := 4) (lo := 4) (hi := 4) (by decide)) (by decide)) dL_law_1841 ?_
  refine lv_aload_n hx hb dL_law_1842 rfl (lv_at hl 3 rfl) ?_
  refine lv_iload_n hx hb dL_law_1843 rfl (lv_at hl 0 rfl) ?_
  refine lv_iconst (v := 5) hx hb dL_law_1844 (by decide) ?_
  refine lv_iadd hx hb dL_law_1845 ?_
  refine va_sld hx hb hX hbl hbA hS (lw_ix hi hL (rg_c (v := 5) (lo := 5) (hi := 5) (by decide)) (by decide)) dL_law_1846 ?_
  refine lv_aload_n hx hb dL_law_1847 rfl (lv_at hl 3 rfl) ?_
  refine lv_iload_n hx hb dL_law_1848 rfl (lv_at hl 0 rfl) ?_
  refine lv_bipush (v := 6) hx hb dL_law_1849 (by decide) ?_
  refine lv_iadd hx hb dL_law_1851 ?_
  refine va_sld hx hb hX hbl hbA hS (lw_ix hi hL (rg_c (v := 6) (lo := 6) (hi := 6) (by decide)) (by decide)) dL_law_1852 ?_
  refine lv_aload_n hx hb dL_law_1853 rfl (lv_at hl 3 rfl) ?_
  refine lv_iload_n hx hb dL_law_1854 rfl (lv_at hl 0 rfl) ?_
  refine lv_bipush (v := 7) hx hb dL_law_1855 (by decide) ?_
  refine lv_iadd hx hb dL_law_1857 ?_
  refine va_sld hx hb hX hbl hbA hS (lw_ix hi hL (rg_c (v := 7) (lo := 7) (hi := 7) (by decide)) (by decide)) dL_law_1858 ?_
  refine lw_cXl (As := [.int (xs ((nI i) + 1).toNatClampNeg), .int (xs ((nI i) + 2).toNatClampNeg), .int (xs ((nI i) + 3).toNatClampNeg), .int (xs ((nI i) + 4).toNatClampNeg), .int (xs ((nI i) + 5).toNatClampNeg), .int (xs ((nI i) + 6).toNatClampNeg), .int (xs ((nI i) + 7).toNatClampNeg)]) (rest := []) ⟨hx, hb, hml, hown, htg⟩ (e_X6_frost l D E G _ a C hT (xs ((nI i) + 1).toNatClampNeg) (xs ((nI i) + 2).toNatClampNeg) (xs ((nI i) + 3).toNatClampNeg) (xs ((nI i) + 4).toNatClampNeg) (xs ((nI i) + 5).toNatClampNeg) (xs ((nI i) + 6).toNatClampNeg) (xs ((nI i) + 7).toNatClampNeg)) (cwV 7 htg (oh_gV q_893 q_894 q_895 q_66 q_896) rfl rfl rfl pdVX6_frost ⟨Nat.le_of_ble_eq_true rfl, Nat.le_of_ble_eq_true rfl⟩) hK hP hD hG hS hA (va_recv hK (oh_pre_P hP) (ci := 6) (q0 := 0) rfl (oh_wg (by decide) (sX_0 hT))) rfl hl.1 rfl (Nat.le_of_ble_eq_true rfl) dL_law_1859 ⟨show cN + 0 ≤ 600000 by omega, show sN + 0 ≤ 7302250 by omega⟩ (fun r_1 C_3 H locs hq_2 hP hD hS => ?_)
  obtain ⟨hT, f_4, hq_2⟩ := hq_2
  have ht1 : gi (C_3 5) 1 = gi (M 0) 7 := by rw [f_4.1 5 rfl (by decide)]; exact ht1
  have ht2 : gi (C_3 0) 2 = 0 ↔ n = 74 := by rw [show gi (C_3 0) 2 = gi (C 0) 2 from congrArg vi (f_4.2 2 (by decide))]; exact ht2
  have ht3 : ga (C_3 32) = ga (M 7) := Eq.trans (congrArg ga (f_4.1 32 rfl (by decide))) ht3
  have htK := htK.x (fr_all f_4 17 22 (by decide))
  have hAX : absX 10 C_3 A0 := absX_g1 15 hAX f_4 hq_2 (by decide)
  have hEX := ex_eq hEX (f_4.1 31 rfl (by decide))
  have hSX : absHX C_3 S0 := hx_fr hSX (f_4.1 29 rfl (by decide)) (f_4.1 30 rfl (by decide))
  refine W.widen (k := cN) (n := sN) (Nat.le_refl _) (Nat.le_refl _) ?_
  refine lv_pop2_2 hx hb dL_law_1862 rfl ?_
  refine lv_aload_n hx hb dL_law_1863 rfl (lv_at hl 1 rfl) ?_
  refine lv_aload_n hx hb dL_law_1864 rfl (lv_at hl 3 rfl) ?_
  refine lv_iload_n hx hb dL_law_1865 rfl (lv_at hl 0 rfl) ?_
  refine lv_iconst (v := 1) hx hb dL_law_1866 (by decide) ?_
  refine lv_iadd hx hb dL_law_1867 ?_
  refine va_sld hx hb hX hbl hbA hS (lw_ix hi hL (rg_c (v := 1) (lo := 1) (hi := 1) (by decide)) (by decide)) dL_law_1868 ?_
  refine lv_aload_n hx hb dL_law_1869 rfl (lv_at hl 3 rfl) ?_
  refine lv_iload_n hx hb dL_law_1870 rfl (lv_at hl 0 rfl) ?_
  refine lv_iconst (v := 2) hx hb dL_law_1871 (by decide) ?_
  refine lv_iadd hx hb dL_law_1872 ?_
  refine va_sld hx hb hX hbl hbA hS (lw_ix hi hL (rg_c (v := 2) (lo := 2) (hi := 2) (by decide)) (by decide)) dL_law_1873 ?_
  refine lv_aload_n hx hb dL_law_1874 rfl (lv_at hl 3 rfl) ?_
  refine lv_iload_n hx hb dL_law_1875 rfl (lv_at hl 0 rfl) ?_
  refine lv_iconst (v := 3) hx hb dL_law_1876 (by decide) ?_
  refine lv_iadd hx hb dL_law_1877 ?_
  refine va_sld hx hb hX hbl hbA hS (lw_ix hi hL (rg_c (v := 3) (lo := 3) (hi := 3) (by decide)) (by decide)) dL_law_1878 ?_
  refine lv_aload_n hx hb dL_law_1879 rfl (lv_at hl 3 rfl) ?_
  refine lv_iload_n hx hb dL_law_1880 rfl (lv_at hl 0 rfl) ?_
  refine lv_iconst (v := 4) hx hb dL_law_1881 (by decide) ?_
  refine lv_iadd hx hb dL_law_1882 ?_
  refine va_sld hx hb hX hbl hbA hS (lw_ix hi hL (rg_c (v := 4) (lo := 4) (hi := 4) (by decide)) (by decide)) dL_law_1883 ?_
  refine lv_aload_n hx hb dL_law_1884 rfl (lv_at hl 3 rfl) ?_
  refine lv_iload_n hx hb dL_law_1885 rfl (lv_at hl 0 rfl) ?_
  refine lv_iconst (v := 5) hx hb dL_law_1886 (by decide) ?_
  refine lv_iadd hx hb dL_law_1887 ?_
  refine va_sld hx hb hX hbl hbA hS (lw_ix hi hL (rg_c (v := 5) (lo := 5) (hi := 5) (by decide)) (by decide)) dL_law_1888 ?_
  refine lv_aload_n hx hb dL_law_1889 rfl (lv_at hl 3 rfl) ?_
  refine lv_iload_n hx hb dL_law_1890 rfl (lv_at hl 0 rfl) ?_
  refine lv_bipush (v := 6) hx hb dL_law_1891 (by decide) ?_
  refine lv_iadd hx hb dL_law_1893 ?_
  refine va_sld hx hb hX hbl hbA hS (lw_ix hi hL (rg_c (v := 6) (lo := 6) (hi := 6) (by decide)) (by decide)) dL_law_1894 ?_
  refine lv_aload_n hx hb dL_law_1895 rfl (lv_at hl 3 rfl) ?_
  refine lv_iload_n hx hb dL_law_1896 rfl (lv_at hl 0 rfl) ?_
  refine lv_bipush (v := 7) hx hb dL_law_1897 (by decide) ?_
  refine lv_iadd hx hb dL_law_1899 ?_
  refine va_sld hx hb hX hbl hbA hS (lw_ix hi hL (rg_c (v := 7) (lo := 7) (hi := 7) (by decide)) (by decide)) dL_law_1900 ?_
  refine lw_cMl (As := [.int (xs ((nI i) + 1).toNatClampNeg), .int (xs ((nI i) + 2).toNatClampNeg), .int (xs ((nI i) + 3).toNatClampNeg), .int (xs ((nI i) + 4).toNatClampNeg), .int (xs ((nI i) + 5).toNatClampNeg), .int (xs ((nI i) + 6).toNatClampNeg), .int (xs ((nI i) + 7).toNatClampNeg)]) (rest := []) ⟨hx, hb, hml, hown, htg⟩ (e_X7_frost l D E G _ ma M n hn hTM (xs ((nI i) + 1).toNatClampNeg) (xs ((nI i) + 2).toNatClampNeg) (xs ((nI i) + 3).toNatClampNeg) (xs ((nI i) + 4).toNatClampNeg) (xs ((nI i) + 5).toNatClampNeg) (xs ((nI i) + 6).toNatClampNeg) (xs ((nI i) + 7).toNatClampNeg) hR) (cwV 7 htg (oh_gV q_1405 q_1406 q_1407 q_73 q_1408) rfl rfl rfl pdVX7_frost ⟨Nat.le_of_ble_eq_true rfl, Nat.le_of_ble_eq_true rfl⟩) hK hP hD hG hS hA (va_recv hK (oh_suf_P hP) (ci := 7) (q0 := 0) rfl (oh_wg (by omega) (sM_0 hTM))) rfl hl.1 rfl (Nat.le_of_ble_eq_true rfl) dL_law_1901 ⟨show cN + 0 ≤ 600000 by omega, show sN + 0 ≤ 7302250 by omega⟩ (fun r_5 M_7 H locs hq_6 hP hD hS => ?_)
  have hTM0 := hTM
  obtain ⟨hTM, f_8, hR, hq_6⟩ := hq_6
  have hkp := kept_fr hkp f_8 (by decide)
  have ht1 : gi (C_3 5) 1 = gi (M_7 0) 7 := by rw [show gi (M_7 0) 7 = gi (M 0) 7 from congrArg vi (f_8.2 7 (by decide))]; exact ht1
  have ht3 : ga (C_3 32) = ga (M_7 7) := Eq.trans ht3 (congrArg ga (f_8.1 7 rfl (by decide))).symm
  have htK := htK.m f_8 (by decide)
  have hAM : absM M_7 A0 := absM_13 hAM hTM0 hq_6 f_8 (by decide) (by decide)
  have hEM := em_eq hEM (fun s hs => f_8.1 (16 + s) (inR_out hs (by decide)) (by omega))
  have hSM : absHM M_7 S0 := hm_fr hSM (f_8.1 1 rfl (by decide)) (f_8.1 2 rfl (by decide)) (f_8.1 3 rfl (by decide)) (f_8.1 6 rfl (by decide))
  refine W.widen (k := cN) (n := sN) (Nat.le_refl _) (Nat.le_refl _) ?_
  refine lv_pop2_2 hx hb dL_law_1904 rfl ?_
  refine lv_goto (tgt := 2046) hx hb dL_law_1905 (by decide) ?_
  exact kk ma C_3 M_7 n (cN) (sN) H locs ls hT hTM hR hkp ht1 ht2 ht3 ⟨_, hAX, hAM, _, _, hSX, hSM, hEX, hEM⟩ htK (by omega) (by omega) hP hD hS hl

set_option maxHeartbeats 4000000 in
set_option maxRecDepth 100000 in
/-- the law at a call of begin -/
theorem lc_begin {p : Program} {e : Env} {s : State} {m : MethodId} {below : List Frame} {meth : Method} {c : Code} (l : Launch) {b L : Nat} {xs : Nat → Int32} (C0 : lw_At p s m meth c b L xs) (hL : L ≤ 4096) {D : va_G} {E : Nat → ClassId} {G : Nat → Nat} {A : Nat → Prop} (hAe : A = fun q => s.heap.size ≤ q) (hK : va_K D vwCl (oh_ty E) s) (hG : oh_G G A s) {a : Nat → Nat} {i : Nat} (hi : i + 8 ≤ L) {ma : Nat → Nat} {C M : Nat → va_E} {n cN sN : Nat} (hT : TyX a E C) (hTM : TyM ma E M) (hR : RelM M) (hkp : KEPT E n ma M) (ht1 : gi (C 5) 1 = gi (M 0) 7) (ht2 : gi (C 0) 2 = 0 ↔ n = 74) (ht3 : ga (C 32) = ga (M 7)) (htA : ∃ A0 : LA, absX 10 C A0 ∧ absM M A0 ∧ ∃ (S0 : HZ) (Z0 : EZ), absHX C S0 ∧ absHM M S0 ∧ absEX C S0 Z0 ∧ absEM M S0 Z0) (htK : TIEK n C M) (hcN : cN ≤ 35 + n) (hsN : sN ≤ 1477 + 16 * n) {H : Heap} {locs : List Loc} (hP : va_P D vwCl (oh_W 35 a C ++ oh_W n ma M) H) (hD : va_D A (oh_W 35 a C ++ oh_W n ma M)) (hS : va_S A s.heap H locs) {ls : Array Slot} (hl : lv_has ls 4 [(3, .int (nI i)), (2, .ref (ma 0)), (1, .ref (a 0)), (0, .ref b)]) (kk : ∀ (ma : Nat → Nat) (C M : Nat → va_E) (n cN sN : Nat) (H : Heap) (locs : List Loc) (ls : Array Slot), TyX a E C → TyM ma E M → RelM M → KEPT E n ma M → gi (C 5) 1 = gi (M 0) 7 → (gi (C 0) 2 = 0 ↔ n = 74) → ga (C 32) = ga (M 7) → (∃ A0 : LA, absX 10 C A0 ∧ absM M A0 ∧ ∃ (S0 : HZ) (Z0 : EZ), absHX C S0 ∧ absHM M S0 ∧ absEX C S0 Z0 ∧ absEM M S0 Z0) → TIEK n C M → cN ≤ 35 + n → sN ≤ 1477 + 16 * n → va_P D vwCl (oh_W 35 a C ++ oh_W n ma M) H → va_D A (oh_W 35 a C ++ oh_W n ma M) → va_S A s.heap H locs → lv_has ls 4 [(3, .int (nI i)), (2, .ref (ma 0)), (1, .ref (a 0)), (0, .ref b)] → W p l e room_1 s m #[Value.ref b] below meth c H locs cN sN (lw_Z below #[Value.ref b] s) (F0 m 2046 ls [])) : W p l e room_1 s m #[Value.ref b] below meth c H locs cN sN (lw_Z below #[Value.ref b] s) (F0 m 1908 ls []) := by
  obtain ⟨hx, hb, hr, hml, hown, hts, hX, hbl, hlocks, hgv⟩ := id C0
  have hown : s.vm.findClass RL = some m.cls := hown
  have htg : ∀ w ∈ oh_t, w.before _ s = true := fun w h => hts w (List.mem_filter.mp h).1
  have hA : ∀ q, s.heap.size ≤ q → A q := fun q h => by rw [hAe]; exact h
  have hbA : ¬ A b := by rw [hAe]; exact Nat.not_le.mpr hbl
  have hn := hkp.le.1
  have hn8 := hkp.le.2
  have ht10 := ht1
  have ht20 := ht2
  have ht30 := ht3
  obtain ⟨A0, hAX, hAM, S0, Z0, hSX, hSM, hEX, hEM⟩ := htA
  have hAX0 := hAX
  have hAM0 := hAM
  have htK0 := htK
  have hSX0 := hSX
  have hSM0 := hSM
  have hEX0 := hEX
  have hEM0 := hEM
  refine lv_aload_n hx hb dL_law_1908 rfl (lv_at hl 2 rfl) ?_
  refine lv_aload_n hx hb dL_law_1909 rfl (lv_at hl 3 rfl) ?_
  refine lv_iload_n hx hb dL_law_1910 rfl (lv_at hl 0 rfl) ?_
  refine lv_iconst (v := 1) hx hb dL_law_1911 (by decide) ?_
  refine lv_iadd hx hb dL_law_1912 ?_
  refine va_sld hx hb hX hbl hbA hS (lw_ix hi hL (rg_c (v := 1) (lo := 1) (hi := 1) (by decide)) (by decide)) dL_law_1913 ?_
  refine lv_aload_n hx hb dL_law_1914 rfl (lv_at hl 3 rfl) ?_
  refine lv_iload_n hx hb dL_law_1915 rfl (lv_at hl 0 rfl) ?_
  refine lv_iconst (v := 2) hx hb dL_law_1916 (by decide) ?_
  refine lv_iadd hx hb dL_law_1917 ?_
  refine va_sld hx hb hX hbl hbA hS (lw_ix hi hL (rg_c (v := 2) (lo := 2) (hi := 2) (by decide)) (by decide)) dL_law_1918 ?_
  refine lv_aload_n hx hb dL_law_1919 rfl (lv_at hl 3 rfl) ?_
  refine lv_iload_n hx hb dL_law_1920 rfl (lv_at hl 0 rfl) ?_
  refine lv_iconst (v := 3) hx hb dL_law_1921 (by decide) ?_
  refine lv_iadd hx hb dL_law_1922 ?_
  refine va_sld hx hb hX hbl hbA hS (lw_ix hi hL (rg_c (v := 3) (lo := 3) (hi := 3) (by decide)) (by decide)) dL_law_1923 ?_
  refine lv_aload_n hx hb dL_law_1924 rfl (lv_at hl 3 rfl) ?_
  refine lv_iload_n hx hb dL_law_1925 rfl (lv_at hl 0 rfl) ?_
  refine lv_iconst (v := 4) hx hb dL_law_1926 (by decide) ?_
  refine lv_iadd hx hb dL_law_1927 ?_
  refine va_sld hx hb hX hbl hbA hS (lw_ix hi hL (rg_c (v := 4) (lo := 4) (hi := 4) (by decide)) (by decide)) dL_law_1928 ?_
  refine lw_cX (As := [.int (xs ((nI i) + 1).toNatClampNeg), .int (xs ((nI i) + 2).toNatClampNeg), .int (xs ((nI i) + 3).toNatClampNeg), .int (xs ((nI i) + 4).toNatClampNeg)]) (rest := []) ⟨hx, hb, hml, hown, htg⟩ (e_X6_begin l D E G _ a C hT (xs ((nI i) + 1).toNatClampNeg) (xs ((nI i) + 2).toNatClampNeg) (xs ((nI i) + 3).toNatClampNeg) (xs ((nI i) + 4).toNatClampNeg)) (cwV 4 htg (oh_gV q_904 q_905 q_906 q_66 q_907) rfl rfl rfl pdVX6_begin ⟨Nat.le_of_ble_eq_true rfl, Nat.le_of_ble_eq_true rfl⟩) hK hP hD hG hS hA (va_recv hK (oh_pre_P hP) (ci := 6) (q0 := 0) rfl (oh_wg (by decide) (sX_0 hT))) rfl hl.1 rfl (Nat.le_of_ble_eq_true rfl) dL_law_1929 ⟨show cN + 0 ≤ 600000 by omega, show sN + 0 ≤ 7302250 by omega⟩ (fun r_1 C_3 H locs hq_2 hP hD hS => ?_)
  obtain ⟨hT, f_4, hq_2⟩ := hq_2
  have ht1 : gi (C_3 5) 1 = gi (M 0) 7 := by rw [f_4.1 5 rfl (by decide)]; exact ht1
  have ht2 : gi (C_3 0) 2 = 0 ↔ n = 74 := by rw [show gi (C_3 0) 2 = gi (C 0) 2 from congrArg vi (f_4.2 2 (by decide))]; exact ht2
  have ht3 : ga (C_3 32) = ga (M 7) := Eq.trans (congrArg ga (f_4.1 32 rfl (by decide))) ht3
  have htK := htK.x (fr_all f_4 17 22 (by decide))
  have hX_5 := hq_2 A0 hAX0
  have hAX : absX 10 C_3 A0 := absX_eq hAX (fun k k1 k2 => fr_all f_4 10 15 (by decide) k k1 (by omega))
  have hEX := ex_eq hEX (f_4.1 31 rfl (by decide))
  have hSX : absHX C_3 S0 := hx_fr hSX (f_4.1 29 rfl (by decide)) (f_4.1 30 rfl (by decide))
  refine W.widen (k := cN) (n := sN) (Nat.le_refl _) (Nat.le_refl _) ?_
  refine lv_pop hx hb dL_law_1932 rfl ?_
  refine lv_aload_n hx hb dL_law_1933 rfl (lv_at hl 1 rfl) ?_
  refine lv_aload_n hx hb dL_law_1934 rfl (lv_at hl 3 rfl) ?_
  refine lv_iload_n hx hb dL_law_1935 rfl (lv_at hl 0 rfl) ?_
  refine lv_iconst (v := 1) hx hb dL_law_1936 (by decide) ?_
  refine lv_iadd hx hb dL_law_1937 ?_
  refine va_sld hx hb hX hbl hbA hS (lw_ix hi hL (rg_c (v := 1) (lo := 1) (hi := 1) (by decide)) (by decide)) dL_law_1938 ?_
  refine lv_aload_n hx hb dL_law_1939 rfl (lv_at hl 3 rfl) ?_
  refine lv_iload_n hx hb dL_law_1940 rfl (lv_at hl 0 rfl) ?_
  refine lv_iconst (v := 2) hx hb dL_law_1941 (by decide) ?_
  refine lv_iadd hx hb dL_law_1942 ?_
  refine va_sld hx hb hX hbl hbA hS (lw_ix hi hL (rg_c (v := 2) (lo := 2) (hi := 2) (by decide)) (by decide)) dL_law_1943 ?_
  refine lv_aload_n hx hb dL_law_1944 rfl (lv_at hl 3 rfl) ?_
  refine lv_iload_n hx hb dL_law_1945 rfl (lv_at hl 0 rfl) ?_
  refine lv_iconst (v := 3) hx hb dL_law_1946 (by decide) ?_
  refine lv_iadd hx hb dL_law_1947 ?_
  refine va_sld hx hb hX hbl hbA hS (lw_ix hi hL (rg_c (v := 3) (lo := 3) (hi := 3) (by decide)) (by decide)) dL_law_1948 ?_
  refine lv_aload_n hx hb dL_law_1949 rfl (lv_at hl 3 rfl) ?_
  refine lv_iload_n hx hb dL_law_1950 rfl (lv_at hl 0 rfl) ?_
  refine lv_iconst (v := 4) hx hb dL_law_1951 (by decide) ?_
  refine lv_iadd hx hb dL_law_1952 ?_
  refine va_sld hx hb hX hbl hbA hS (lw_ix hi hL (rg_c (v := 4) (lo := 4) (hi := 4) (by decide)) (by decide)) dL_law_1953 ?_
  refine lw_cM (As := [.int (xs ((nI i) + 1).toNatClampNeg), .int (xs ((nI i) + 2).toNatClampNeg), .int (xs ((nI i) + 3).toNatClampNeg), .int (xs ((nI i) + 4).toNatClampNeg)]) (rest := []) ⟨hx, hb, hml, hown, htg⟩ (e_X7_begin l D E G _ ma M n hn hTM (xs ((nI i) + 1).toNatClampNeg) (xs ((nI i) + 2).toNatClampNeg) (xs ((nI i) + 3).toNatClampNeg) (xs ((nI i) + 4).toNatClampNeg) hR) (cwV 4 htg (oh_gV q_1409 q_1410 q_1411 q_73 q_1412) rfl rfl rfl pdVX7_begin ⟨Nat.le_of_ble_eq_true rfl, Nat.le_of_ble_eq_true rfl⟩) hK hP hD hG hS hA (va_recv hK (oh_suf_P hP) (ci := 7) (q0 := 0) rfl (oh_wg (by omega) (sM_0 hTM))) rfl hl.1 rfl (Nat.le_of_ble_eq_true rfl) dL_law_1954 ⟨show cN + 0 ≤ 600000 by omega, show sN + 0 ≤ 7302250 by omega⟩ (fun r_6 M_8 H locs hq_7 hP hD hS => ?_)
  have hTM0 := hTM
  obtain ⟨hTM, f_9, hR, hq_7⟩ := hq_7
  have hkp := kept_fr hkp f_9 (by decide)
  have ht1 : gi (C_3 5) 1 = gi (M_8 0) 7 := by rw [show gi (M_8 0) 7 = gi (M 0) 7 from congrArg vi (f_9.2 7 (by decide))]; exact ht1
  have ht3 : ga (C_3 32) = ga (M_8 7) := Eq.trans ht3 (congrArg ga (f_9.1 7 rfl (by decide))).symm
  have htK := htK.m f_9 (by decide)
  have hM_10 := hq_7 A0 hAM0
  have hAM : absM M_8 A0 := absM_fr hAM hTM0 f_9 (by decide) (by decide) (by decide)
  have hEM := em_eq hEM (fun s hs => f_9.1 (16 + s) (inR_out hs (by decide)) (by omega))
  have hSM : absHM M_8 S0 := hm_fr hSM (f_9.1 1 rfl (by decide)) (f_9.1 2 rfl (by decide)) (f_9.1 3 rfl (by decide)) (f_9.1 6 rfl (by decide))
  refine W.widen (k := cN) (n := sN) (Nat.le_refl _) (Nat.le_refl _) ?_
  refine lv_pop hx hb dL_law_1957 rfl ?_
  refine lv_goto (tgt := 2046) hx hb dL_law_1958 (by decide) ?_
  exact kk ma C_3 M_8 n (cN) (sN) H locs ls hT hTM hR hkp ht1 ht2 ht3 ⟨_, hAX, hAM, _, _, hSX, hSM, hEX, hEM⟩ htK (by omega) (by omega) hP hD hS hl

set_option maxHeartbeats 4000000 in
set_option maxRecDepth 100000 in
/-- the law at a call of step -/
theorem lc_step {p : Program} {e : Env} {s : State} {m : MethodId} {below : List Frame} {meth : Method} {c : Code} (l : Launch) {b L : Nat} {xs : Nat → Int32} (C0 : lw_At p s m meth c b L xs) (hL : L ≤ 4096) {D : va_G} {E : Nat → ClassId} {G : Nat → Nat} {A : Nat → Prop} (hAe : A = fun q => s.heap.size ≤ q) (hK : va_K D vwCl (oh_ty E) s) (hG : oh_G G A s) {a : Nat → Nat} {i : Nat} (hi : i + 8 ≤ L) {ma : Nat → Nat} {C M : Nat → va_E} {n cN sN : Nat} (hT : TyX a E C) (hTM : TyM ma E M) (hR : RelM M) (hkp : KEPT E n ma M) (ht1 : gi (C 5) 1 = gi (M 0) 7) (ht2 : gi (C 0) 2 = 0 ↔ n = 74) (ht3 : ga (C 32) = ga (M 7)) (htA : ∃ A0 : LA, absX 10 C A0 ∧ absM M A0 ∧ ∃ (S0 : HZ) (Z0 : EZ), absHX C S0 ∧ absHM M S0 ∧ absEX C S0 Z0 ∧ absEM M S0 Z0) (htK : TIEK n C M) (hcN : cN ≤ 35 + n) (hsN : sN ≤ 1477 + 16 * n) {H : Heap} {locs : List Loc} (hP : va_P D vwCl (oh_W 35 a C ++ oh_W n ma M) H) (hD : va_D A (oh_W 35 a C ++ oh_W n ma M)) (hS : va_S A s.heap H locs) {ls : Array Slot} (hl : lv_has ls 4 [(3, .int (nI i)), (2, .ref (ma 0)), (1, .ref (a 0)), (0, .ref b)]) (kk : ∀ (ma : Nat → Nat) (C M : Nat → va_E) (n cN sN : Nat) (H : Heap) (locs : List Loc) (ls : Array Slot), TyX a E C → TyM ma E M → RelM M → KEPT E n ma M → gi (C 5) 1 = gi (M 0) 7 → (gi (C 0) 2 = 0 ↔ n = 74) → ga (C 32) = ga (M 7) → (∃ A0 : LA, absX 10 C A0 ∧ absM M A0 ∧ ∃ (S0 : HZ) (Z0 : EZ), absHX C S0 ∧ absHM M S0 ∧ absEX C S0 Z0 ∧ absEM M S0 Z0) → TIEK n C M → cN ≤ 35 + n → sN ≤ 1477 + 16 * n → va_P D vwCl (oh_W 35 a C ++ oh_W n ma M) H → va_D A (oh_W 35 a C ++ oh_W n ma M) → va_S A s.heap H locs → lv_has ls 4 [(3, .int (nI i)), (2, .ref (ma 0)), (1, .ref (a 0)), (0, .ref b)] → W p l e room_1 s m #[Value.ref b] below meth c H locs cN sN (lw_Z below #[Value.ref b] s) (F0 m 2046 ls [])) : W p l e room_1 s m #[Value.ref b] below meth c H locs cN sN (lw_Z below #[Value.ref b] s) (F0 m 1961 ls []) := by
  obtain ⟨hx, hb, hr, hml, hown, hts, hX, hbl, hlocks, hgv⟩ := id C0
  have hown : s.vm.findClass RL = some m.cls := hown
  have htg : ∀ w ∈ oh_t, w.before _ s = true := fun w h => hts w (List.mem_filter.mp h).1
  have hA : ∀ q, s.heap.size ≤ q → A q := fun q h => by rw [hAe]; exact h
  have hbA : ¬ A b := by rw [hAe]; exact Nat.not_le.mpr hbl
  have hn := hkp.le.1
  have hn8 := hkp.le.2
  have ht10 := ht1
  have ht20 := ht2
  have ht30 := ht3
  obtain ⟨A0, hAX, hAM, S0, Z0, hSX, hSM, hEX, hEM⟩ := htA
  have hAX0 := hAX
  have hAM0 := hAM
  have htK0 := htK
  have hSX0 := hSX
  have hSM0 := hSM
  have hEX0 := hEX
  have hEM0 := hEM
  refine lv_aload_n hx hb dL_law_1961 rfl (lv_at hl 2 rfl) ?_
  refine lw_cX (As := []) (rest := []) ⟨hx, hb, hml, hown, htg⟩ (e_X6_step l D E G _ a C hT) (cwV 0 htg (oh_gV q_912 q_913 q_914 q_66 q_915) rfl rfl rfl pdVX6_step ⟨Nat.le_of_ble_eq_true rfl, Nat.le_of_ble_eq_true rfl⟩) hK hP hD hG hS hA (va_recv hK (oh_pre_P hP) (ci := 6) (q0 := 0) rfl (oh_wg (by decide) (sX_0 hT))) rfl hl.1 rfl (Nat.le_of_ble_eq_true rfl) dL_law_1962 ⟨show cN + 0 ≤ 600000 by omega, show sN + 0 ≤ 7302250 by omega⟩ (fun r_1 C_3 H locs hq_2 hP hD hS => ?_)
  obtain ⟨hT, f_4, hq_2⟩ := hq_2
  have ht1 : gi (C_3 5) 1 = gi (M 0) 7 := by rw [f_4.1 5 rfl (by decide)]; exact ht1
  have ht2 : gi (C_3 0) 2 = 0 ↔ n = 74 := by rw [show gi (C_3 0) 2 = gi (C 0) 2 from congrArg vi (f_4.2 2 (by decide))]; exact ht2
  have ht3 : ga (C_3 32) = ga (M 7) := Eq.trans (congrArg ga (f_4.1 32 rfl (by decide))) ht3
  have htK := htK.x (fr_all f_4 17 22 (by decide))
  have hAX := hq_2 A0 hAX
  have hEX := ex_eq hEX (f_4.1 31 rfl (by decide))
  have hSX : absHX C_3 S0 := hx_fr hSX (f_4.1 29 rfl (by decide)) (f_4.1 30 rfl (by decide))
  refine W.widen (k := cN) (n := sN) (Nat.le_refl _) (Nat.le_refl _) ?_
  refine lv_pop hx hb dL_law_1965 rfl ?_
  refine lv_aload_n hx hb dL_law_1966 rfl (lv_at hl 1 rfl) ?_
  refine lw_cM (As := []) (rest := []) ⟨hx, hb, hml, hown, htg⟩ (e_X7_step l D E G _ ma M n hn hTM hR) (cwV 0 htg (oh_gV q_1413 q_1414 q_1415 q_73 q_1416) rfl rfl rfl pdVX7_step ⟨Nat.le_of_ble_eq_true rfl, Nat.le_of_ble_eq_true rfl⟩) hK hP hD hG hS hA (va_recv hK (oh_suf_P hP) (ci := 7) (q0 := 0) rfl (oh_wg (by omega) (sM_0 hTM))) rfl hl.1 rfl (Nat.le_of_ble_eq_true rfl) dL_law_1967 ⟨show cN + 0 ≤ 600000 by omega, show sN + 0 ≤ 7302250 by omega⟩ (fun r_5 M_7 H locs hq_6 hP hD hS => ?_)
  have hTM0 := hTM
  obtain ⟨hTM, f_8, hR, hq_6⟩ := hq_6
  have hkp := kept_fr hkp f_8 (by decide)
  have ht1 : gi (C_3 5) 1 = gi (M_7 0) 7 := by rw [show gi (M_7 0) 7 = gi (M 0) 7 from congrArg vi (f_8.2 7 (by decide))]; exact ht1
  have ht3 : ga (C_3 32) = ga (M_7 7) := Eq.trans ht3 (congrArg ga (f_8.1 7 rfl (by decide))).symm
  have htK := htK.m f_8 (by decide)
  have hAM := hq_6 A0 hAM
  have hEM := em_eq hEM (fun s hs => f_8.1 (16 + s) (inR_out hs (by decide)) (by omega))
  have hSM : absHM M_7 S0 := hm_fr hSM (f_8.1 1 rfl (by decide)) (f_8.1 2 rfl (by decide)) (f_8.1 3 rfl (by decide)) (f_8.1 6 rfl (by decide))
  refine W.widen (k := cN) (n := sN) (Nat.le_refl _) (Nat.le_refl _) ?_
  refine lv_pop hx hb dL_law_1970 rfl ?_
  refine lv_goto (tgt := 2046) hx hb dL_law_1971 (by decide) ?_
  exact kk ma C_3 M_7 n (cN) (sN) H locs ls hT hTM hR hkp ht1 ht2 ht3 ⟨_, hAX, hAM, _, _, hSX, hSM, hEX, hEM⟩ htK (by omega) (by omega) hP hD hS hl

set_option maxHeartbeats 4000000 in
set_option maxRecDepth 100000 in
/-- the law at a call of under -/
theorem lc_under {p : Program} {e : Env} {s : State} {m : MethodId} {below : List Frame} {meth : Method} {c : Code} (l : Launch) {b L : Nat} {xs : Nat → Int32} (C0 : lw_At p s m meth c b L xs) (hL : L ≤ 4096) {D : va_G} {E : Nat → ClassId} {G : Nat → Nat} {A : Nat → Prop} (hAe : A = fun q => s.heap.size ≤ q) (hK : va_K D vwCl (oh_ty E) s) (hG : oh_G G A s) {a : Nat → Nat} {i : Nat} (hi : i + 8 ≤ L) {ma : Nat → Nat} {C M : Nat → va_E} {n cN sN : Nat} (hT : TyX a E C) (hTM : TyM ma E M) (hR : RelM M) (hkp : KEPT E n ma M) (ht1 : gi (C 5) 1 = gi (M 0) 7) (ht2 : gi (C 0) 2 = 0 ↔ n = 74) (ht3 : ga (C 32) = ga (M 7)) (htA : ∃ A0 : LA, absX 10 C A0 ∧ absM M A0 ∧ ∃ (S0 : HZ) (Z0 : EZ), absHX C S0 ∧ absHM M S0 ∧ absEX C S0 Z0 ∧ absEM M S0 Z0) (htK : TIEK n C M) (hcN : cN ≤ 35 + n) (hsN : sN ≤ 1477 + 16 * n) {H : Heap} {locs : List Loc} (hP : va_P D vwCl (oh_W 35 a C ++ oh_W n ma M) H) (hD : va_D A (oh_W 35 a C ++ oh_W n ma M)) (hS : va_S A s.heap H locs) {ls : Array Slot} (hl : lv_has ls 4 [(3, .int (nI i)), (2, .ref (ma 0)), (1, .ref (a 0)), (0, .ref b)]) (kk : ∀ (ma : Nat → Nat) (C M : Nat → va_E) (n cN sN : Nat) (H : Heap) (locs : List Loc) (ls : Array Slot), TyX a E C → TyM ma E M → RelM M → KEPT E n ma M → gi (C 5) 1 = gi (M 0) 7 → (gi (C 0) 2 = 0 ↔ n = 74) → ga (C 32) = ga (M 7) → (∃ A0 : LA, absX 10 C A0 ∧ absM M A0 ∧ ∃ (S0 : HZ) (Z0 : EZ), absHX C S0 ∧ absHM M S0 ∧ absEX C S0 Z0 ∧ absEM M S0 Z0) → TIEK n C M → cN ≤ 35 + n → sN ≤ 1477 + 16 * n → va_P D vwCl (oh_W 35 a C ++ oh_W n ma M) H → va_D A (oh_W 35 a C ++ oh_W n ma M) → va_S A s.heap H locs → lv_has ls 4 [(3, .int (nI i)), (2, .ref (ma 0)), (1, .ref (a 0)), (0, .ref b)] → W p l e room_1 s m #[Value.ref b] below meth c H locs cN sN (lw_Z below #[Value.ref b] s) (F0 m 2046 ls [])) : W p l e room_1 s m #[Value.ref b] below meth c H locs cN sN (lw_Z below #[Value.ref b] s) (F0 m 1974 ls []) := by
  obtain ⟨hx, hb, hr, hml, hown, hts, hX, hbl, hlocks, hgv⟩ := id C0
  have hown : s.vm.findClass RL = some m.cls := hown
  have htg : ∀ w ∈ oh_t, w.before _ s = true := fun w h => hts w (List.mem_filter.mp h).1
  have hA : ∀ q, s.heap.size ≤ q → A q := fun q h => by rw [hAe]; exact h
  have hbA : ¬ A b := by rw [hAe]; exact Nat.not_le.mpr hbl
  have hn := hkp.le.1
  have hn8 := hkp.le.2
  have ht10 := ht1
  have ht20 := ht2
  have ht30 := ht3
  obtain ⟨A0, hAX, hAM, S0, Z0, hSX, hSM, hEX, hEM⟩ := htA
  have hAX0 := hAX
  have hAM0 := hAM
  have htK0 := htK
  have hSX0 := hSX
  have hSM0 := hSM
  have hEX0 := hEX
  have hEM0 := hEM
  refine lv_aload_n hx hb dL_law_1974 rfl (lv_at hl 2 rfl) ?_
  refine lv_aload_n hx hb dL_law_1975 rfl (lv_at hl 3 rfl) ?_
  refine lv_iload_n hx hb dL_law_1976 rfl (lv_at hl 0 rfl) ?_
  refine lv_iconst (v := 1) hx hb dL_law_1977 (by decide) ?_
  refine lv_iadd hx hb dL_law_1978 ?_
  refine va_sld hx hb hX hbl hbA hS (lw_ix hi hL (rg_c (v := 1) (lo := 1) (hi := 1) (by decide)) (by decide)) dL_law_1979 ?_
  refine lw_cX (As := [.int (xs ((nI i) + 1).toNatClampNeg)]) (rest := []) ⟨hx, hb, hml, hown, htg⟩ (c_X6_under l D E G _ a C hT (xs ((nI i) + 1).toNatClampNeg)) (cwV 1 htg (oh_gV q_929 q_930 q_931 q_66 q_932) rfl rfl rfl pdVX6_under ⟨Nat.le_of_ble_eq_true rfl, Nat.le_of_ble_eq_true rfl⟩) hK hP hD hG hS hA (va_recv hK (oh_pre_P hP) (ci := 6) (q0 := 0) rfl (oh_wg (by decide) (sX_0 hT))) rfl hl.1 rfl (Nat.le_of_ble_eq_true rfl) dL_law_1980 ⟨show cN + 0 ≤ 600000 by omega, show sN + 0 ≤ 7302250 by omega⟩ (fun r_1 C_3 H locs hq_2 hP hD hS => ?_)
  obtain ⟨hT, f_4, hq_2⟩ := hq_2
  have ht1 : gi (C_3 5) 1 = gi (M 0) 7 := by rw [f_4.1 5 rfl (by decide)]; exact ht1
  have ht2 : gi (C_3 0) 2 = 0 ↔ n = 74 := by rw [show gi (C_3 0) 2 = gi (C 0) 2 from congrArg vi (f_4.2 2 (by decide))]; exact ht2
  have ht3 : ga (C_3 32) = ga (M 7) := Eq.trans (congrArg ga (f_4.1 32 rfl (by decide))) ht3
  have htK := htK.x (fr_all f_4 17 22 (by decide))
  have hAX : absX 10 C_3 A0 := absX_eq hAX (fun k k1 k2 => fr_all f_4 10 15 (by decide) k k1 (by omega))
  have hEX := ex_eq hEX (f_4.1 31 rfl (by decide))
  have hSX : absHX C_3 S0 := hx_fr hSX (f_4.1 29 rfl (by decide)) (f_4.1 30 rfl (by decide))
  refine W.widen (k := cN) (n := sN) (Nat.le_refl _) (Nat.le_refl _) ?_
  refine lv_pop hx hb dL_law_1983 rfl ?_
  refine lv_aload_n hx hb dL_law_1984 rfl (lv_at hl 1 rfl) ?_
  refine lv_aload_n hx hb dL_law_1985 rfl (lv_at hl 3 rfl) ?_
  refine lv_iload_n hx hb dL_law_1986 rfl (lv_at hl 0 rfl) ?_
  refine lv_iconst (v := 1) hx hb dL_law_1987 (by decide) ?_
  refine lv_iadd hx hb dL_law_1988 ?_
  refine va_sld hx hb hX hbl hbA hS (lw_ix hi hL (rg_c (v := 1) (lo := 1) (hi := 1) (by decide)) (by decide)) dL_law_1989 ?_
  refine lw_cM (As := [.int (xs ((nI i) + 1).toNatClampNeg)]) (rest := []) ⟨hx, hb, hml, hown, htg⟩ (c_X7_under l D E G _ ma M n hn hTM (xs ((nI i) + 1).toNatClampNeg) hR) (cwV 1 htg (oh_gV q_1417 q_1418 q_1419 q_73 q_1420) rfl rfl rfl pdVX7_under ⟨Nat.le_of_ble_eq_true rfl, Nat.le_of_ble_eq_true rfl⟩) hK hP hD hG hS hA (va_recv hK (oh_suf_P hP) (ci := 7) (q0 := 0) rfl (oh_wg (by omega) (sM_0 hTM))) rfl hl.1 rfl (Nat.le_of_ble_eq_true rfl) dL_law_1990 ⟨show cN + 0 ≤ 600000 by omega, show sN + 0 ≤ 7302250 by omega⟩ (fun r_5 M_7 H locs hq_6 hP hD hS => ?_)
  have hTM0 := hTM
  obtain ⟨hTM, f_8, hR⟩ := hq_6
  have hkp := kept_fr hkp f_8 (by decide)
  have ht1 : gi (C_3 5) 1 = gi (M_7 0) 7 := by rw [show gi (M_7 0) 7 = gi (M 0) 7 from congrArg vi (f_8.2 7 (by decide))]; exact ht1
  have ht3 : ga (C_3 32) = ga (M_7 7) := Eq.trans ht3 (congrArg ga (f_8.1 7 rfl (by decide))).symm
  have htK := htK.m f_8 (by decide)
  have hAM : absM M_7 A0 := absM_fr hAM hTM0 f_8 (by decide) (by decide) (by decide)
  have hEM := em_eq hEM (fun s hs => f_8.1 (16 + s) (inR_out hs (by decide)) (by omega))
  have hSM : absHM M_7 S0 := hm_fr hSM (f_8.1 1 rfl (by decide)) (f_8.1 2 rfl (by decide)) (f_8.1 3 rfl (by decide)) (f_8.1 6 rfl (by decide))
  refine W.widen (k := cN) (n := sN) (Nat.le_refl _) (Nat.le_refl _) ?_
  refine lv_pop hx hb dL_law_1993 rfl ?_
  refine lv_goto (tgt := 2046) hx hb dL_law_1994 (by decide) ?_
  exact kk ma C_3 M_7 n (cN) (sN) H locs ls hT hTM hR hkp ht1 ht2 ht3 ⟨_, hAX, hAM, _, _, hSX, hSM, hEX, hEM⟩ htK (by omega) (by omega) hP hD hS hl

set_option maxHeartbeats 4000000 in
set_option maxRecDepth 100000 in
/-- the law at a call of image -/
theorem lc_image {p : Program} {e : Env} {s : State} {m : MethodId} {below : List Frame} {meth : Method} {c : Code} (l : Launch) {b L : Nat} {xs : Nat → Int32} (C0 : lw_At p s m meth c b L xs) (hL : L ≤ 4096) {D : va_G} {E : Nat → ClassId} {G : Nat → Nat} {A : Nat → Prop} (hAe : A = fun q => s.heap.size ≤ q) (hK : va_K D vwCl (oh_ty E) s) (hG : oh_G G A s) {a : Nat → Nat} {i : Nat} (hi : i + 8 ≤ L) {ma : Nat → Nat} {C M : Nat → va_E} {n cN sN : Nat} (hT : TyX a E C) (hTM : TyM ma E M) (hR : RelM M) (hkp : KEPT E n ma M) (ht1 : gi (C 5) 1 = gi (M 0) 7) (ht2 : gi (C 0) 2 = 0 ↔ n = 74) (ht3 : ga (C 32) = ga (M 7)) (htA : ∃ A0 : LA, absX 10 C A0 ∧ absM M A0 ∧ ∃ (S0 : HZ) (Z0 : EZ), absHX C S0 ∧ absHM M S0 ∧ absEX C S0 Z0 ∧ absEM M S0 Z0) (htK : TIEK n C M) (hcN : cN ≤ 35 + n) (hsN : sN ≤ 1477 + 16 * n) {H : Heap} {locs : List Loc} (hP : va_P D vwCl (oh_W 35 a C ++ oh_W n ma M) H) (hD : va_D A (oh_W 35 a C ++ oh_W n ma M)) (hS : va_S A s.heap H locs) {ls : Array Slot} (hl : lv_has ls 4 [(3, .int (nI i)), (2, .ref (ma 0)), (1, .ref (a 0)), (0, .ref b)]) (kk : ∀ (ma : Nat → Nat) (C M : Nat → va_E) (n cN sN : Nat) (H : Heap) (locs : List Loc) (ls : Array Slot), TyX a E C → TyM ma E M → RelM M → KEPT E n ma M → gi (C 5) 1 = gi (M 0) 7 → (gi (C 0) 2 = 0 ↔ n = 74) → ga (C 32) = ga (M 7) → (∃ A0 : LA, absX 10 C A0 ∧ absM M A0 ∧ ∃ (S0 : HZ) (Z0 : EZ), absHX C S0 ∧ absHM M S0 ∧ absEX C S0 Z0 ∧ absEM M S0 Z0) → TIEK n C M → cN ≤ 35 + n → sN ≤ 1477 + 16 * n → va_P D vwCl (oh_W 35 a C ++ oh_W n ma M) H → va_D A (oh_W 35 a C ++ oh_W n ma M) → va_S A s.heap H locs → lv_has ls 4 [(3, .int (nI i)), (2, .ref (ma 0)), (1, .ref (a 0)), (0, .ref b)] → W p l e room_1 s m #[Value.ref b] below meth c H locs cN sN (lw_Z below #[Value.ref b] s) (F0 m 2046 ls [])) : W p l e room_1 s m #[Value.ref b] below meth c H locs cN sN (lw_Z below #[Value.ref b] s) (F0 m 1997 ls []) := by
  obtain ⟨hx, hb, hr, hml, hown, hts, hX, hbl, hlocks, hgv⟩ := id C0
  have hown : s.vm.findClass RL = some m.cls := hown
  have htg : ∀ w ∈ oh_t, w.before _ s = true := fun w h => hts w (List.mem_filter.mp h).1
  have hA : ∀ q, s.heap.size ≤ q → A q := fun q h => by rw [hAe]; exact h
  have hbA : ¬ A b := by rw [hAe]; exact Nat.not_le.mpr hbl
  have hn := hkp.le.1
  have hn8 := hkp.le.2
  have ht10 := ht1
  have ht20 := ht2
  have ht30 := ht3
  obtain ⟨A0, hAX, hAM, S0, Z0, hSX, hSM, hEX, hEM⟩ := htA
  have hAX0 := hAX
  have hAM0 := hAM
  have htK0 := htK
  have hSX0 := hSX
  have hSM0 := hSM
  have hEX0 := hEX
  have hEM0 := hEM
  refine lv_aload_n hx hb dL_law_1997 rfl (lv_at hl 2 rfl) ?_
  refine lw_cX (As := []) (rest := []) ⟨hx, hb, hml, hown, htg⟩ (e_X6_image l D E G _ a C hT) (cwV 0 htg (oh_gV q_933 q_934 q_935 q_66 q_936) rfl rfl rfl pdVX6_image ⟨Nat.le_of_ble_eq_true rfl, Nat.le_of_ble_eq_true rfl⟩) hK hP hD hG hS hA (va_recv hK (oh_pre_P hP) (ci := 6) (q0 := 0) rfl (oh_wg (by decide) (sX_0 hT))) rfl hl.1 rfl (Nat.le_of_ble_eq_true rfl) dL_law_1998 ⟨show cN + 0 ≤ 600000 by omega, show sN + 0 ≤ 7302250 by omega⟩ (fun r_1 C_3 H locs hq_2 hP hD hS => ?_)
  obtain ⟨hT, f_4, hq_2⟩ := hq_2
  have ht1 : gi (C_3 5) 1 = gi (M 0) 7 := by rw [f_4.1 5 rfl (by decide)]; exact ht1
  have ht3 : ga (C_3 32) = ga (M 7) := Eq.trans (congrArg ga (f_4.1 32 rfl (by decide))) ht3
  have hAX : absX 10 C_3 A0 := absX_eq hAX (fun k k1 k2 => fr_all f_4 10 15 (by decide) k k1 (by omega))
  have hEX := ex_eq hEX (f_4.1 31 rfl (by decide))
  have hSX : absHX C_3 S0 := hx_fr hSX (f_4.1 29 rfl (by decide)) (f_4.1 30 rfl (by decide))
  refine W.widen (k := cN) (n := sN) (Nat.le_refl _) (Nat.le_refl _) ?_
  refine lv_pop hx hb dL_law_2001 rfl ?_
  refine lv_aload_n hx hb dL_law_2002 rfl (lv_at hl 1 rfl) ?_
  have hTM0 := hTM
  rcases hkp with ⟨en, hkn⟩ | ⟨en, hkr, hTk, hRk⟩
  · subst en
    refine lw_cM (As := []) (rest := []) ⟨hx, hb, hml, hown, htg⟩ (c_X7_image_n l D E G _ ma M hTM hR hkn) (cwV 0 htg (oh_gV q_1421 q_1422 q_1423 q_73 q_1424) rfl rfl rfl pdVX7_image ⟨Nat.le_of_ble_eq_true rfl, Nat.le_of_ble_eq_true rfl⟩) hK hP hD hG hS hA (va_recv hK (oh_suf_P hP) (ci := 7) (q0 := 0) rfl (oh_wg (by omega) (sM_0 hTM))) rfl hl.1 rfl (Nat.le_of_ble_eq_true rfl) dL_law_2003 ⟨show cN + 74 ≤ 600000 by omega, show sN + 1116 ≤ 7302250 by omega⟩ (fun r_5 u_7 H locs hq_6 hP hD hS => ?_)
    obtain ⟨ma2, M2⟩ := u_7
    obtain ⟨ea2, hTM, hR, hk20, hTk, hRk, h7, hcA, hcF, hcK, hq_6⟩ := hq_6
    have ht3 : ga (C_3 32) = ga (M2 7) := Eq.trans ht3 (congrArg ga (hcA 7 (by decide) (by decide))).symm
    have htK : TIEK 148 C_3 M2 := Or.inr ⟨A0, hq_2.2 A0 hAX0, hcK A0 hAM⟩
    have hAM : absM M2 A0 := absM_n hAM hTM0 hcA hcF
    have hSM : absHM M2 S0 := hm_fr hSM (hcA 1 (by decide) (by decide)) (hcA 2 (by decide) (by decide)) (hcA 3 (by decide) (by decide)) (hcA 6 (by decide) (by decide))
    have hEM : absEM M2 S0 Z0 := em_eq hEM (fun s hs => hcA (16 + s) (by omega) (by omega))
    have hkp : KEPT E 148 ma2 M2 := Or.inr ⟨rfl, hk20, hTk, hRk⟩
    refine W.widen (k := cN + 74) (n := sN + 1116) (Nat.le_refl _) (Nat.le_refl _) ?_
    have em : ma 0 = ma2 0 := (ea2 0 (by decide)).symm
    rw [em] at hl
    have ht1 : gi (C_3 5) 1 = gi (M2 0) 7 := Eq.trans ht1 h7.symm
    have ht2 : gi (C_3 0) 2 = 0 ↔ 148 = 74 := ⟨fun h9 => absurd (Eq.trans h9.symm hq_2.1.2) (by decide), fun h9 => absurd h9 (by decide)⟩
    refine lv_pop hx hb dL_law_2006 rfl ?_
    refine lv_goto (tgt := 2046) hx hb dL_law_2007 (by decide) ?_
    exact kk ma2 C_3 M2 148 (cN + 74) (sN + 1116) H locs ls hT hTM hR hkp ht1 ht2 ht3 ⟨_, hAX, hAM, _, _, hSX, hSM, hEX, hEM⟩ htK (by omega) (by omega) hP hD hS hl
  · have hkr0 := hkr
    refine lw_cM (As := []) (rest := []) ⟨hx, hb, hml, hown, htg⟩ (c_X7_image_k l D E G _ ma M n (by omega) hTM hR hkr hTk) (cwV 0 htg (oh_gV q_1421 q_1422 q_1423 q_73 q_1424) rfl rfl rfl pdVX7_image ⟨Nat.le_of_ble_eq_true rfl, Nat.le_of_ble_eq_true rfl⟩) hK hP hD hG hS hA (va_recv hK (oh_suf_P hP) (ci := 7) (q0 := 0) rfl (oh_wg (by omega) (sM_0 hTM))) rfl hl.1 rfl (Nat.le_of_ble_eq_true rfl) dL_law_2003 ⟨show cN + 0 ≤ 600000 by omega, show sN + 0 ≤ 7302250 by omega⟩ (fun r_8 M_10 H locs hq_9 hP hD hS => ?_)
    obtain ⟨hTM, hR, hcc, hTk, hRk, hcK, hq_9⟩ := hq_9
    have ht3 : ga (C_3 32) = ga (M_10 7) := Eq.trans ht3 (congrArg ga (hcc 7 (by decide))).symm
    have htK : TIEK n C_3 M_10 := Or.inr ⟨A0, hq_2.2 A0 hAX0, hcK A0 hAM⟩
    have hSM : absHM M_10 S0 := hm_fr hSM (hcc 1 (by decide)) (hcc 2 (by decide)) (hcc 3 (by decide)) (hcc 6 (by decide))
    have hEM : absEM M_10 S0 Z0 := em_eq hEM (fun s hs => hcc (16 + s) (by omega))
    have hAM : absM M_10 A0 := absM_74 hAM hTM0 hcc
    have hkp : KEPT E n ma M_10 := Or.inr ⟨en, (by rw [hcc 0 (by decide)]; exact hkr0), hTk, hRk⟩
    have ht1 : gi (C_3 5) 1 = gi (M_10 0) 7 := by rw [hcc 0 (by decide)]; exact ht1
    have ht2 : gi (C_3 0) 2 = 0 ↔ n = 74 := ⟨fun h9 => absurd (Eq.trans h9.symm hq_2.1.2) (by decide), fun h9 => absurd (Eq.trans en.symm h9) (by decide)⟩
    refine W.widen (k := cN) (n := sN) (Nat.le_refl _) (Nat.le_refl _) ?_
    refine lv_pop hx hb dL_law_2006 rfl ?_
    refine lv_goto (tgt := 2046) hx hb dL_law_2007 (by decide) ?_
    exact kk ma C_3 M_10 n (cN) (sN) H locs ls hT hTM hR hkp ht1 ht2 ht3 ⟨_, hAX, hAM, _, _, hSX, hSM, hEX, hEM⟩ htK (by omega) (by omega) hP hD hS hl

set_option maxHeartbeats 4000000 in
set_option maxRecDepth 100000 in
/-- the law at a call of back -/
theorem lc_back {p : Program} {e : Env} {s : State} {m : MethodId} {below : List Frame} {meth : Method} {c : Code} (l : Launch) {b L : Nat} {xs : Nat → Int32} (C0 : lw_At p s m meth c b L xs) (hL : L ≤ 4096) {D : va_G} {E : Nat → ClassId} {G : Nat → Nat} {A : Nat → Prop} (hAe : A = fun q => s.heap.size ≤ q) (hK : va_K D vwCl (oh_ty E) s) (hG : oh_G G A s) {a : Nat → Nat} {i : Nat} (hi : i + 8 ≤ L) {ma : Nat → Nat} {C M : Nat → va_E} {n cN sN : Nat} (hT : TyX a E C) (hTM : TyM ma E M) (hR : RelM M) (hkp : KEPT E n ma M) (ht1 : gi (C 5) 1 = gi (M 0) 7) (ht2 : gi (C 0) 2 = 0 ↔ n = 74) (ht3 : ga (C 32) = ga (M 7)) (htA : ∃ A0 : LA, absX 10 C A0 ∧ absM M A0 ∧ ∃ (S0 : HZ) (Z0 : EZ), absHX C S0 ∧ absHM M S0 ∧ absEX C S0 Z0 ∧ absEM M S0 Z0) (htK : TIEK n C M) (hcN : cN ≤ 35 + n) (hsN : sN ≤ 1477 + 16 * n) {H : Heap} {locs : List Loc} (hP : va_P D vwCl (oh_W 35 a C ++ oh_W n ma M) H) (hD : va_D A (oh_W 35 a C ++ oh_W n ma M)) (hS : va_S A s.heap H locs) {ls : Array Slot} (hl : lv_has ls 4 [(3, .int (nI i)), (2, .ref (ma 0)), (1, .ref (a 0)), (0, .ref b)]) (kk : ∀ (ma : Nat → Nat) (C M : Nat → va_E) (n cN sN : Nat) (H : Heap) (locs : List Loc) (ls : Array Slot), TyX a E C → TyM ma E M → RelM M → KEPT E n ma M → gi (C 5) 1 = gi (M 0) 7 → (gi (C 0) 2 = 0 ↔ n = 74) → ga (C 32) = ga (M 7) → (∃ A0 : LA, absX 10 C A0 ∧ absM M A0 ∧ ∃ (S0 : HZ) (Z0 : EZ), absHX C S0 ∧ absHM M S0 ∧ absEX C S0 Z0 ∧ absEM M S0 Z0) → TIEK n C M → cN ≤ 35 + n → sN ≤ 1477 + 16 * n → va_P D vwCl (oh_W 35 a C ++ oh_W n ma M) H → va_D A (oh_W 35 a C ++ oh_W n ma M) → va_S A s.heap H locs → lv_has ls 4 [(3, .int (nI i)), (2, .ref (ma 0)), (1, .ref (a 0)), (0, .ref b)] → W p l e room_1 s m #[Value.ref b] below meth c H locs cN sN (lw_Z below #[Value.ref b] s) (F0 m 2046 ls [])) : W p l e room_1 s m #[Value.ref b] below meth c H locs cN sN (lw_Z below #[Value.ref b] s) (F0 m 2010 ls []) := by
  obtain ⟨hx, hb, hr, hml, hown, hts, hX, hbl, hlocks, hgv⟩ := id C0
  have hown : s.vm.findClass RL = some m.cls := hown
  have htg : ∀ w ∈ oh_t, w.before _ s = true := fun w h => hts w (List.mem_filter.mp h).1
  have hA : ∀ q, s.heap.size ≤ q → A q := fun q h => by rw [hAe]; exact h
  have hbA : ¬ A b := by rw [hAe]; exact Nat.not_le.mpr hbl
  have hn := hkp.le.1
  have hn8 := hkp.le.2
  have ht10 := ht1
  have ht20 := ht2
  have ht30 := ht3
  obtain ⟨A0, hAX, hAM, S0, Z0, hSX, hSM, hEX, hEM⟩ := htA
  have hAX0 := hAX
  have hAM0 := hAM
  have htK0 := htK
  have hSX0 := hSX
  have hSM0 := hSM
  have hEX0 := hEX
  have hEM0 := hEM
  refine lv_aload_n hx hb dL_law_2010 rfl (lv_at hl 2 rfl) ?_
  refine lw_cX (As := []) (rest := []) ⟨hx, hb, hml, hown, htg⟩ (e2_X6_back l D E G _ a C hT) (cwV 0 htg (oh_gV q_942 q_943 q_944 q_66 q_945) rfl rfl rfl pdVX6_back ⟨Nat.le_of_ble_eq_true rfl, Nat.le_of_ble_eq_true rfl⟩) hK hP hD hG hS hA (va_recv hK (oh_pre_P hP) (ci := 6) (q0 := 0) rfl (oh_wg (by decide) (sX_0 hT))) rfl hl.1 rfl (Nat.le_of_ble_eq_true rfl) dL_law_2011 ⟨show cN + 0 ≤ 600000 by omega, show sN + 0 ≤ 7302250 by omega⟩ (fun r_1 C_3 H locs hq_2 hP hD hS => ?_)
  obtain ⟨hT, f_4, hq_2⟩ := hq_2
  have ht1 : gi (C_3 5) 1 = gi (M 0) 7 := by rw [f_4.1 5 rfl (by decide)]; exact ht1
  have ht2 : gi (C_3 0) 2 = 0 ↔ n = 74 := by rw [show gi (C_3 0) 2 = gi (C 0) 2 from congrArg vi (f_4.2 2 (by decide))]; exact ht2
  have ht3 : ga (C_3 32) = ga (M 7) := Eq.trans (congrArg ga (f_4.1 32 rfl (by decide))) ht3
  have htK := htK.x (fr_all f_4 17 22 (by decide))
  refine W.widen (k := cN) (n := sN) (Nat.le_refl _) (Nat.le_refl _) ?_
  refine lv_pop hx hb dL_law_2014 rfl ?_
  refine lv_aload_n hx hb dL_law_2015 rfl (lv_at hl 1 rfl) ?_
  have hTM0 := hTM
  rcases hkp with ⟨en, hkn⟩ | ⟨en, hkr, hTk, hRk⟩
  · refine lw_cM (As := []) (rest := []) ⟨hx, hb, hml, hown, htg⟩ (c_X7_back_n l D E G _ ma M n hn hTM hR hkn) (cwV 0 htg (oh_gV q_1437 q_1438 q_1439 q_73 q_1440) rfl rfl rfl pdVX7_back ⟨Nat.le_of_ble_eq_true rfl, Nat.le_of_ble_eq_true rfl⟩) hK hP hD hG hS hA (va_recv hK (oh_suf_P hP) (ci := 7) (q0 := 0) rfl (oh_wg (by omega) (sM_0 hTM))) rfl hl.1 rfl (Nat.le_of_ble_eq_true rfl) dL_law_2016 ⟨show cN + 0 ≤ 600000 by omega, show sN + 0 ≤ 7302250 by omega⟩ (fun r_5 M_7 H locs hq_6 hP hD hS => ?_)
    obtain ⟨hTM, f_8, hR, hq_6⟩ := hq_6
    have hkp : KEPT E n ma M_7 := kept_fr (Or.inl ⟨en, hkn⟩) f_8 (by decide)
    refine W.widen (k := cN) (n := sN) (Nat.le_refl _) (Nat.le_refl _) ?_
    have ht1 : gi (C_3 5) 1 = gi (M_7 0) 7 := by rw [show gi (M_7 0) 7 = gi (M 0) 7 from congrArg vi (f_8.2 7 (by decide))]; exact ht1
    have ht3 : ga (C_3 32) = ga (M_7 7) := Eq.trans ht3 (congrArg ga (f_8.1 7 rfl (by decide))).symm
    have htK := htK.m f_8 (by decide)
    have hAM : absM M_7 A0 := absM_fr hAM hTM0 f_8 (by decide) (by decide) (by decide)
    have hAX : absX 10 C_3 A0 := absX_eq hAX (fun k k1 k2 => hq_2.2.1.2 (by rw [hq_2.1, if_pos (ht20.mpr en)]; decide) k k1 (by omega))
    have hSM : absHM M_7 S0 := hm_fr hSM (f_8.1 1 rfl (by decide)) (f_8.1 2 rfl (by decide)) (f_8.1 3 rfl (by decide)) (f_8.1 6 rfl (by decide))
    have hSX : absHX C_3 S0 := hq_2.2.2.2 (by rw [hq_2.1, if_pos (ht20.mpr en)]; decide) S0 hSX
    have hEM : absEM M_7 S0 Z0 := em_eq hEM (fun s hs => f_8.1 (16 + s) (inR_out hs (by decide)) (by omega))
    have hEX : absEX C_3 S0 Z0 := ex_eq hEX (f_4.1 31 rfl (by decide))
    refine lv_pop hx hb dL_law_2019 rfl ?_
    refine lv_goto (tgt := 2046) hx hb dL_law_2020 (by decide) ?_
    exact kk ma C_3 M_7 n (cN) (sN) H locs ls hT hTM hR hkp ht1 ht2 ht3 ⟨_, hAX, hAM, _, _, hSX, hSM, hEX, hEM⟩ htK (by omega) (by omega) hP hD hS hl
  · refine lw_cM (As := []) (rest := []) ⟨hx, hb, hml, hown, htg⟩ (c_X7_back_k l D E G _ ma M n hn hTM hR hkr (by omega) hTk hRk) (cwV 0 htg (oh_gV q_1437 q_1438 q_1439 q_73 q_1440) rfl rfl rfl pdVX7_back ⟨Nat.le_of_ble_eq_true rfl, Nat.le_of_ble_eq_true rfl⟩) hK hP hD hG hS hA (va_recv hK (oh_suf_P hP) (ci := 7) (q0 := 0) rfl (oh_wg (by omega) (sM_0 hTM))) rfl hl.1 rfl (Nat.le_of_ble_eq_true rfl) dL_law_2016 ⟨show cN + 0 ≤ 600000 by omega, show sN + 0 ≤ 7302250 by omega⟩ (fun r_9 M_11 H locs hq_10 hP hD hS => ?_)
    obtain ⟨hTM, f_12, hR, hq_10⟩ := hq_10
    have ht1 : gi (C_3 5) 1 = gi (M_11 0) 7 := by rw [show gi (M_11 0) 7 = gi (M 0) 7 from congrArg vi (f_12.2 7 (by decide))]; exact ht1
    have hkp : KEPT E n ma M_11 := kept_fr (Or.inr ⟨en, hkr, hTk, hRk⟩) f_12 (by decide)
    have ht3 : ga (C_3 32) = ga (M_11 7) := Eq.trans ht3 (congrArg ga (f_12.1 7 rfl (by decide))).symm
    obtain ⟨AK, hKX, hKM⟩ := htK.k (by rw [en]; decide)
    obtain ⟨AJ, hJX, hJM⟩ := htK0.k (by rw [en]; decide)
    have hAX : absX 10 C_3 AJ := hq_2.2.1.1 (by rw [hq_2.1, if_neg (fun h9 => absurd (Eq.trans en.symm (ht20.mp h9)) (by decide))]) AJ hJX
    have hAM : absM M_11 AJ := hq_10.2.2 AJ hJM
    have hSM := hq_10.2.1 AJ hJM S0 hSM
    have hSX := hq_2.2.2.1 (by rw [hq_2.1, if_neg (fun h9 => absurd (Eq.trans en.symm (ht20.mp h9)) (by decide))]) AJ hJX S0 hSX
    have hEM : absEM M_11 (spDr S0 (AJ 5 0 1) 8) Z0 := em_sub hEM (fun s hs => f_12.1 (16 + s) (inR_out hs (by decide)) (by omega)) dr_sub
    have hEX : absEX C_3 (spDr S0 (AJ 5 0 1) 8) Z0 := ex_sub hEX (f_4.1 31 rfl (by decide)) dr_sub
    have htK := htK.m f_12 (by decide)
    refine W.widen (k := cN) (n := sN) (Nat.le_refl _) (Nat.le_refl _) ?_
    refine lv_pop hx hb dL_law_2019 rfl ?_
    refine lv_goto (tgt := 2046) hx hb dL_law_2020 (by decide) ?_
    exact kk ma C_3 M_11 n (cN) (sN) H locs ls hT hTM hR hkp ht1 ht2 ht3 ⟨_, hAX, hAM, _, _, hSX, hSM, hEX, hEM⟩ htK (by omega) (by omega) hP hD hS hl

set_option maxHeartbeats 4000000 in
set_option maxRecDepth 100000 in
/-- the law at a call of status -/
theorem lc_status {p : Program} {e : Env} {s : State} {m : MethodId} {below : List Frame} {meth : Method} {c : Code} (l : Launch) {b L : Nat} {xs : Nat → Int32} (C0 : lw_At p s m meth c b L xs) (hL : L ≤ 4096) {D : va_G} {E : Nat → ClassId} {G : Nat → Nat} {A : Nat → Prop} (hAe : A = fun q => s.heap.size ≤ q) (hK : va_K D vwCl (oh_ty E) s) (hG : oh_G G A s) {a : Nat → Nat} {i : Nat} (hi : i + 8 ≤ L) {ma : Nat → Nat} {C M : Nat → va_E} {n cN sN : Nat} (hT : TyX a E C) (hTM : TyM ma E M) (hR : RelM M) (hkp : KEPT E n ma M) (ht1 : gi (C 5) 1 = gi (M 0) 7) (ht2 : gi (C 0) 2 = 0 ↔ n = 74) (ht3 : ga (C 32) = ga (M 7)) (htA : ∃ A0 : LA, absX 10 C A0 ∧ absM M A0 ∧ ∃ (S0 : HZ) (Z0 : EZ), absHX C S0 ∧ absHM M S0 ∧ absEX C S0 Z0 ∧ absEM M S0 Z0) (htK : TIEK n C M) (hcN : cN ≤ 35 + n) (hsN : sN ≤ 1477 + 16 * n) {H : Heap} {locs : List Loc} (hP : va_P D vwCl (oh_W 35 a C ++ oh_W n ma M) H) (hD : va_D A (oh_W 35 a C ++ oh_W n ma M)) (hS : va_S A s.heap H locs) {ls : Array Slot} (hl : lv_has ls 4 [(3, .int (nI i)), (2, .ref (ma 0)), (1, .ref (a 0)), (0, .ref b)]) (kk : ∀ (ma : Nat → Nat) (C M : Nat → va_E) (n cN sN : Nat) (H : Heap) (locs : List Loc) (ls : Array Slot), TyX a E C → TyM ma E M → RelM M → KEPT E n ma M → gi (C 5) 1 = gi (M 0) 7 → (gi (C 0) 2 = 0 ↔ n = 74) → ga (C 32) = ga (M 7) → (∃ A0 : LA, absX 10 C A0 ∧ absM M A0 ∧ ∃ (S0 : HZ) (Z0 : EZ), absHX C S0 ∧ absHM M S0 ∧ absEX C S0 Z0 ∧ absEM M S0 Z0) → TIEK n C M → cN ≤ 35 + n → sN ≤ 1477 + 16 * n → va_P D vwCl (oh_W 35 a C ++ oh_W n ma M) H → va_D A (oh_W 35 a C ++ oh_W n ma M) → va_S A s.heap H locs → lv_has ls 4 [(3, .int (nI i)), (2, .ref (ma 0)), (1, .ref (a 0)), (0, .ref b)] → W p l e room_1 s m #[Value.ref b] below meth c H locs cN sN (lw_Z below #[Value.ref b] s) (F0 m 2046 ls [])) : W p l e room_1 s m #[Value.ref b] below meth c H locs cN sN (lw_Z below #[Value.ref b] s) (F0 m 2023 ls []) := by
  obtain ⟨hx, hb, hr, hml, hown, hts, hX, hbl, hlocks, hgv⟩ := id C0
  have hown : s.vm.findClass RL = some m.cls := hown
  have htg : ∀ w ∈ oh_t, w.before _ s = true := fun w h => hts w (List.mem_filter.mp h).1
  have hA : ∀ q, s.heap.size ≤ q → A q := fun q h => by rw [hAe]; exact h
  have hbA : ¬ A b := by rw [hAe]; exact Nat.not_le.mpr hbl
  have hn := hkp.le.1
  have hn8 := hkp.le.2
  have ht10 := ht1
  have ht20 := ht2
  have ht30 := ht3
  obtain ⟨A0, hAX, hAM, S0, Z0, hSX, hSM, hEX, hEM⟩ := htA
  have hAX0 := hAX
  have hAM0 := hAM
  have htK0 := htK
  have hSX0 := hSX
  have hSM0 := hSM
  have hEX0 := hEX
  have hEM0 := hEM
  refine lv_aload_n hx hb dL_law_2023 rfl (lv_at hl 2 rfl) ?_
  refine lv_aload_n hx hb dL_law_2024 rfl (lv_at hl 3 rfl) ?_
  refine lv_iload_n hx hb dL_law_2025 rfl (lv_at hl 0 rfl) ?_
  refine lv_iconst (v := 1) hx hb dL_law_2026 (by decide) ?_
  refine lv_iadd hx hb dL_law_2027 ?_
  refine va_sld hx hb hX hbl hbA hS (lw_ix hi hL (rg_c (v := 1) (lo := 1) (hi := 1) (by decide)) (by decide)) dL_law_2028 ?_
  refine tq_V (As := [.int (xs ((nI i) + 1).toNatClampNeg)]) (rest := []) (ws := oh_W 35 a C) ⟨hx, hb, hml, hown, htg⟩ (c_X6_status l D E G a C hT (xs ((nI i) + 1).toNatClampNeg)) (cwV 1 htg (oh_gV q_951 q_952 q_953 q_66 q_954) rfl rfl rfl pdVX6_status ⟨Nat.le_of_ble_eq_true rfl, Nat.le_of_ble_eq_true rfl⟩) hK (oh_pre_P hP) hG hS (va_recv hK (oh_pre_P hP) (ci := 6) (q0 := 0) rfl (oh_wg (by decide) (sX_0 hT))) rfl hl.1 rfl (Nat.le_of_ble_eq_true rfl) dL_law_2029 ⟨show cN ≤ 600000 by omega, show sN ≤ 7302250 by omega⟩ (fun r_1 hq_2 => ?_)
  refine lv_pop hx hb dL_law_2032 rfl ?_
  refine lv_aload_n hx hb dL_law_2033 rfl (lv_at hl 1 rfl) ?_
  refine lv_aload_n hx hb dL_law_2034 rfl (lv_at hl 3 rfl) ?_
  refine lv_iload_n hx hb dL_law_2035 rfl (lv_at hl 0 rfl) ?_
  refine lv_iconst (v := 1) hx hb dL_law_2036 (by decide) ?_
  refine lv_iadd hx hb dL_law_2037 ?_
  refine va_sld hx hb hX hbl hbA hS (lw_ix hi hL (rg_c (v := 1) (lo := 1) (hi := 1) (by decide)) (by decide)) dL_law_2038 ?_
  refine tq_V (As := [.int (xs ((nI i) + 1).toNatClampNeg)]) (rest := []) (ws := oh_W n ma M) ⟨hx, hb, hml, hown, htg⟩ (c_X7_status l D E G ma M n hn hTM (xs ((nI i) + 1).toNatClampNeg) hR) (cwV 1 htg (oh_gV q_1441 q_1442 q_1443 q_73 q_1444) rfl rfl rfl pdVX7_status ⟨Nat.le_of_ble_eq_true rfl, Nat.le_of_ble_eq_true rfl⟩) hK (oh_suf_P hP) hG hS (va_recv hK (oh_suf_P hP) (ci := 7) (q0 := 0) rfl (oh_wg (by omega) (sM_0 hTM))) rfl hl.1 rfl (Nat.le_of_ble_eq_true rfl) dL_law_2039 ⟨show cN ≤ 600000 by omega, show sN ≤ 7302250 by omega⟩ (fun r_3 hq_4 => ?_)
  refine lv_pop hx hb dL_law_2042 rfl ?_
  refine lv_goto (tgt := 2046) hx hb dL_law_2043 (by decide) ?_
  exact kk ma C M n (cN) (sN) H locs ls hT hTM hR hkp ht1 ht2 ht3 ⟨_, hAX, hAM, _, _, hSX, hSM, hEX, hEM⟩ htK (by omega) (by omega) hP hD hS hl
theorem bg_dL_law_0 : bysAt cL_law 0 [187, 0, 7, 89, 183, 0, 9, 76, 187, 0, 10, 89, 183, 0, 12, 77, 3, 62, 29, 42, 190, 16, 8] := bysAt_of (by decide +kernel)
theorem dL_law_0 : decode cL_law 0 = .ok (.new 7, 3) := o_187 (bg_dL_law_0 0 187 rfl) (bg_dL_law_0 1 0 rfl) (bg_dL_law_0 2 7 rfl)
theorem dL_law_3 : decode cL_law 3 = .ok (.dup, 1) := o_89 (bg_dL_law_0 3 89 rfl)
theorem dL_law_4 : decode cL_law 4 = .ok (.invokespecial 9, 3) := o_183 (bg_dL_law_0 4 183 rfl) (bg_dL_law_0 5 0 rfl) (bg_dL_law_0 6 9 rfl)
theorem dL_law_7 : decode cL_law 7 = .ok (.astore_n 1, 1) := o_76 (bg_dL_law_0 7 76 rfl)
theorem dL_law_8 : decode cL_law 8 = .ok (.new 10, 3) := o_187 (bg_dL_law_0 8 187 rfl) (bg_dL_law_0 9 0 rfl) (bg_dL_law_0 10 10 rfl)
theorem dL_law_11 : decode cL_law 11 = .ok (.dup, 1) := o_89 (bg_dL_law_0 11 89 rfl)
theorem dL_law_12 : decode cL_law 12 = .ok (.invokespecial 12, 3) := o_183 (bg_dL_law_0 12 183 rfl) (bg_dL_law_0 13 0 rfl) (bg_dL_law_0 14 12 rfl)
theorem dL_law_15 : decode cL_law 15 = .ok (.astore_n 2, 1) := o_77 (bg_dL_law_0 15 77 rfl)
theorem dL_law_16 : decode cL_law 16 = .ok (.iconst 0, 1) := o_3 (bg_dL_law_0 16 3 rfl)
theorem dL_law_17 : decode cL_law 17 = .ok (.istore_n 3, 1) := o_62 (bg_dL_law_0 17 62 rfl)
theorem dL_law_18 : decode cL_law 18 = .ok (.iload_n 3, 1) := o_29 (bg_dL_law_0 18 29 rfl)
theorem dL_law_19 : decode cL_law 19 = .ok (.aload_n 0, 1) := o_42 (bg_dL_law_0 19 42 rfl)
theorem dL_law_20 : decode cL_law 20 = .ok (.arraylength, 1) := o_190 (bg_dL_law_0 20 190 rfl)
theorem dL_law_21 : decode cL_law 21 = .ok (.bipush 8, 2) := o_16 (bg_dL_law_0 21 16 rfl) (bg_dL_law_0 22 8 rfl) (by decide +kernel)
theorem bg_dL_law_23 : bysAt cL_law 23 [100, 163, 7, 236, 42, 29, 46, 16, 63, 126] := bysAt_of (by decide +kernel)
theorem dL_law_23 : decode cL_law 23 = .ok (.isub, 1) := o_100 (bg_dL_law_23 0 100 rfl)
theorem dL_law_24 : decode cL_law 24 = .ok (.if_icmp .gt 2028, 3) := o_163 (bg_dL_law_23 1 163 rfl) (bg_dL_law_23 2 7 rfl) (bg_dL_law_23 3 236 rfl) (by decide +kernel)
theorem dL_law_27 : decode cL_law 27 = .ok (.aload_n 0, 1) := o_42 (bg_dL_law_23 4 42 rfl)
theorem dL_law_28 : decode cL_law 28 = .ok (.iload_n 3, 1) := o_29 (bg_dL_law_23 5 29 rfl)
theorem dL_law_29 : decode cL_law 29 = .ok (.iaload, 1) := o_46 (bg_dL_law_23 6 46 rfl)
theorem dL_law_30 : decode cL_law 30 = .ok (.bipush 63, 2) := o_16 (bg_dL_law_23 7 16 rfl) (bg_dL_law_23 8 63 rfl) (by decide +kernel)
theorem dL_law_32 : decode cL_law 32 = .ok (.iand, 1) := o_126 (bg_dL_law_23 9 126 rfl)
theorem bg_dL_law_2049 : bysAt cL_law 2049 [167, 248, 17, 4, 172] := bysAt_of (by decide +kernel)
theorem dL_law_2049 : decode cL_law 2049 = .ok (.goto (-2031), 3) := o_167 (bg_dL_law_2049 0 167 rfl) (bg_dL_law_2049 1 248 rfl) (bg_dL_law_2049 2 17 rfl) (by decide +kernel)
theorem dL_law_2052 : decode cL_law 2052 = .ok (.iconst 1, 1) := o_4 (bg_dL_law_2049 3 4 rfl)
theorem dL_law_2053 : decode cL_law 2053 = .ok (.ireturn, 1) := o_172 (bg_dL_law_2049 4 172 rfl)
theorem dL_law_33 : decode cL_law 33 = .ok (.tableswitch 2013 0 42 #[187, 230, 303, 366, 400, 423, 456, 489, 564, 627, 670, 713, 746, 779, 838, 887, 920, 933, 946, 979, 1012, 1061, 1084, 1117, 1160, 1203, 1256, 1309, 1362, 1425, 1468, 1531, 1606, 1649, 1702, 1745, 1788, 1875, 1928, 1941, 1964, 1977, 1990], 187) := by decide +kernel
theorem dL_law_2046 : decode cL_law 2046 = .ok (.iinc 3 8, 3) := by decide +kernel
set_option maxHeartbeats 4000000 in
set_option maxRecDepth 100000 in
theorem lw_cmp {i L : Nat} (hL : L ≤ 4096) (hi : i ≤ L) : (Int32.ofNat L - 8 < nI i) ↔ ¬ (i + 8 ≤ L) := by
  rw [Int32.lt_iff_toInt_lt, nI_toInt (by omega)]
  have e1 : (Int32.ofNat L).toInt = (L : Int) := nI_toInt (n := L) (by omega)
  have e2 : (Int32.ofNat L - 8).toInt = (L : Int) - 8 := by
    rw [Int32.toInt_sub, e1]
    exact oh_bmod (by show _ ≤ (L : Int) - 8; omega) (by show (L : Int) - 8 ≤ _; omega)
  rw [e2]
  omega
set_option maxHeartbeats 4000000 in
set_option maxRecDepth 100000 in
/-- the law at its loop -/
theorem lw_18 {p : Program} {e : Env} {s : State} {m : MethodId} {below : List Frame} {meth : Method} {c : Code} (l : Launch) {b L : Nat} {xs : Nat → Int32} (C0 : lw_At p s m meth c b L xs) (hL : L ≤ 4096) {D : va_G} {E : Nat → ClassId} {G : Nat → Nat} {A : Nat → Prop} (hAe : A = fun q => s.heap.size ≤ q) (hK : va_K D vwCl (oh_ty E) s) (hG : oh_G G A s) {a : Nat → Nat} : ∀ (d i : Nat) (ma : Nat → Nat) (C M : Nat → va_E) (n cN sN : Nat) (H : Heap) (locs : List Loc) (ls : Array Slot), L - i = d → i ≤ L → TyX a E C → TyM ma E M → RelM M → KEPT E n ma M → gi (C 5) 1 = gi (M 0) 7 → (gi (C 0) 2 = 0 ↔ n = 74) → ga (C 32) = ga (M 7) → (∃ A0 : LA, absX 10 C A0 ∧ absM M A0 ∧ ∃ (S0 : HZ) (Z0 : EZ), absHX C S0 ∧ absHM M S0 ∧ absEX C S0 Z0 ∧ absEM M S0 Z0) → TIEK n C M → cN ≤ 35 + n → sN ≤ 1477 + 16 * n → va_P D vwCl (oh_W 35 a C ++ oh_W n ma M) H → va_D A (oh_W 35 a C ++ oh_W n ma M) → va_S A s.heap H locs → lv_has ls 4 [(3, .int (nI i)), (2, .ref (ma 0)), (1, .ref (a 0)), (0, .ref b)] → W p l e room_1 s m #[Value.ref b] below meth c H locs cN sN (lw_Z below #[Value.ref b] s) (F0 m 18 ls []) := by
  obtain ⟨hx, hb, hr, hml, hown, hts, hX, hbl, hlocks, hgv⟩ := id C0
  have hbA : ¬ A b := by rw [hAe]; exact Nat.not_le.mpr hbl
  intro d
  induction d using Nat.strongRecOn with
  | ind d ih =>
    intro i ma C M n cN sN H locs ls hd hiL hT hTM hR hkp ht1 ht2 ht3 htA htK hcN hsN hP hD hS hl
    have hn8 := hkp.le.2
    refine lv_iload_n hx hb dL_law_18 rfl (lv_at hl 0 rfl) ?_
    refine lv_aload_n hx hb dL_law_19 rfl (lv_at hl 3 rfl) ?_
    refine va_slen hx hb hX hbl hbA hS dL_law_20 ?_
    refine lv_bipush (v := 8) hx hb dL_law_21 (by decide) ?_
    refine lv_isub hx hb dL_law_23 ?_
    by_cases h8 : i + 8 ≤ L
    · refine lv_icmp_gt (tgt := 2052) hx hb dL_law_24 (by decide) (fun c => absurd h8 ((lw_cmp hL hiL).mp c)) (fun _ => ?_)
      refine lv_aload_n hx hb dL_law_27 rfl (lv_at hl 3 rfl) ?_
      refine lv_iload_n hx hb dL_law_28 rfl (lv_at hl 0 rfl) ?_
      refine va_sld hx hb hX hbl hbA hS (vp_in_nI (by omega) (by omega)) dL_law_29 ?_
      refine lv_bipush (v := 63) hx hb dL_law_30 (by decide) ?_
      refine lv_iand hx hb dL_law_32 ?_
      have nxt : ∀ (ma : Nat → Nat) (C M : Nat → va_E) (n cN sN : Nat) (H : Heap) (locs : List Loc) (ls : Array Slot), TyX a E C → TyM ma E M → RelM M → KEPT E n ma M → gi (C 5) 1 = gi (M 0) 7 → (gi (C 0) 2 = 0 ↔ n = 74) → ga (C 32) = ga (M 7) → (∃ A0 : LA, absX 10 C A0 ∧ absM M A0 ∧ ∃ (S0 : HZ) (Z0 : EZ), absHX C S0 ∧ absHM M S0 ∧ absEX C S0 Z0 ∧ absEM M S0 Z0) → TIEK n C M → cN ≤ 35 + n → sN ≤ 1477 + 16 * n → va_P D vwCl (oh_W 35 a C ++ oh_W n ma M) H → va_D A (oh_W 35 a C ++ oh_W n ma M) → va_S A s.heap H locs → lv_has ls 4 [(3, .int (nI i)), (2, .ref (ma 0)), (1, .ref (a 0)), (0, .ref b)] → W p l e room_1 s m #[Value.ref b] below meth c H locs cN sN (lw_Z below #[Value.ref b] s) (F0 m 2046 ls []) := by
        intro ma C M n cN sN H locs ls hT hTM hR hkp ht1 ht2 ht3 htA htK hcN hsN hP hD hS hl
        refine lv_iinc (v := nI (i + 8)) (lv' := [(3, .int (nI (i + 8))), (2, .ref (ma 0)), (1, .ref (a 0)), (0, .ref b)]) hx hb dL_law_2046 hl (k := 0) rfl (by exact nI_add i 8) (by decide) rfl (fun ls hl => ?_)
        refine lv_goto (tgt := 18) hx hb dL_law_2049 (by decide) ?_
        exact ih (L - (i + 8)) (by omega) (i + 8) ma C M n cN sN H locs ls rfl h8 hT hTM hR hkp ht1 ht2 ht3 htA htK hcN hsN hP hD hS hl
      obtain ⟨j, hj, ej⟩ := pk_andE (xs (nI i).toNatClampNeg) (m := 63) 6 (by decide)
      rw [ej]
      rcases (show j = 0 ∨ j = 1 ∨ j = 2 ∨ j = 3 ∨ j = 4 ∨ j = 5 ∨ j = 6 ∨ j = 7 ∨ j = 8 ∨ j = 9 ∨ j = 10 ∨ j = 11 ∨ j = 12 ∨ j = 13 ∨ j = 14 ∨ j = 15 ∨ j = 16 ∨ j = 17 ∨ j = 18 ∨ j = 19 ∨ j = 20 ∨ j = 21 ∨ j = 22 ∨ j = 23 ∨ j = 24 ∨ j = 25 ∨ j = 26 ∨ j = 27 ∨ j = 28 ∨ j = 29 ∨ j = 30 ∨ j = 31 ∨ j = 32 ∨ j = 33 ∨ j = 34 ∨ j = 35 ∨ j = 36 ∨ j = 37 ∨ j = 38 ∨ j = 39 ∨ j = 40 ∨ j = 41 ∨ j = 42 ∨ 43 ≤ j by omega) with rfl | rfl | rfl | rfl | rfl | rfl | rfl | rfl | rfl | rfl | rfl | rfl | rfl | rfl | rfl | rfl | rfl | rfl | rfl | rfl | rfl | rfl | rfl | rfl | rfl | rfl | rfl | rfl | rfl | rfl | rfl | rfl | rfl | rfl | rfl | rfl | rfl | rfl | rfl | rfl | rfl | rfl | rfl | h43
      · refine lv_tableIn (off := 187) (tgt := 220) hx hb dL_law_33 (by decide) (by decide) (by decide) (by decide) ?_
        exact lc_row l C0 hL hAe hK hG h8 hT hTM hR hkp ht1 ht2 ht3 htA htK hcN hsN hP hD hS hl nxt
      · refine lv_tableIn (off := 230) (tgt := 263) hx hb dL_law_33 (by decide) (by decide) (by decide) (by decide) ?_
        exact lc_set l C0 hL hAe hK hG h8 hT hTM hR hkp ht1 ht2 ht3 htA htK hcN hsN hP hD hS hl nxt
      · refine lv_tableIn (off := 303) (tgt := 336) hx hb dL_law_33 (by decide) (by decide) (by decide) (by decide) ?_
        exact lc_copy l C0 hL hAe hK hG h8 hT hTM hR hkp ht1 ht2 ht3 htA htK hcN hsN hP hD hS hl nxt
      · refine lv_tableIn (off := 366) (tgt := 399) hx hb dL_law_33 (by decide) (by decide) (by decide) (by decide) ?_
        exact lc_element l C0 hL hAe hK hG h8 hT hTM hR hkp ht1 ht2 ht3 htA htK hcN hsN hP hD hS hl nxt
      · refine lv_tableIn (off := 400) (tgt := 433) hx hb dL_law_33 (by decide) (by decide) (by decide) (by decide) ?_
        exact lc_holds l C0 hL hAe hK hG h8 hT hTM hR hkp ht1 ht2 ht3 htA htK hcN hsN hP hD hS hl nxt
      · refine lv_tableIn (off := 423) (tgt := 456) hx hb dL_law_33 (by decide) (by decide) (by decide) (by decide) ?_
        exact lc_show l C0 hL hAe hK hG h8 hT hTM hR hkp ht1 ht2 ht3 htA htK hcN hsN hP hD hS hl nxt
      · refine lv_tableIn (off := 456) (tgt := 489) hx hb dL_law_33 (by decide) (by decide) (by decide) (by decide) ?_
        exact lc_says l C0 hL hAe hK hG h8 hT hTM hR hkp ht1 ht2 ht3 htA htK hcN hsN hP hD hS hl nxt
      · refine lv_tableIn (off := 489) (tgt := 522) hx hb dL_law_33 (by decide) (by decide) (by decide) (by decide) ?_
        exact lc_road l C0 hL hAe hK hG h8 hT hTM hR hkp ht1 ht2 ht3 htA htK hcN hsN hP hD hS hl nxt
      · refine lv_tableIn (off := 564) (tgt := 597) hx hb dL_law_33 (by decide) (by decide) (by decide) (by decide) ?_
        exact lc_bridge l C0 hL hAe hK hG h8 hT hTM hR hkp ht1 ht2 ht3 htA htK hcN hsN hP hD hS hl nxt
      · refine lv_tableIn (off := 627) (tgt := 660) hx hb dL_law_33 (by decide) (by decide) (by decide) (by decide) ?_
        exact lc_prop l C0 hL hAe hK hG h8 hT hTM hR hkp ht1 ht2 ht3 htA htK hcN hsN hP hD hS hl nxt
      · refine lv_tableIn (off := 670) (tgt := 703) hx hb dL_law_33 (by decide) (by decide) (by decide) (by decide) ?_
        exact lc_waggon l C0 hL hAe hK hG h8 hT hTM hR hkp ht1 ht2 ht3 htA htK hcN hsN hP hD hS hl nxt
      · refine lv_tableIn (off := 713) (tgt := 746) hx hb dL_law_33 (by decide) (by decide) (by decide) (by decide) ?_
        exact lc_part l C0 hL hAe hK hG h8 hT hTM hR hkp ht1 ht2 ht3 htA htK hcN hsN hP hD hS hl nxt
      · refine lv_tableIn (off := 746) (tgt := 779) hx hb dL_law_33 (by decide) (by decide) (by decide) (by decide) ?_
        exact lc_ask l C0 hL hAe hK hG h8 hT hTM hR hkp ht1 ht2 ht3 htA htK hcN hsN hP hD hS hl nxt
      · refine lv_tableIn (off := 779) (tgt := 812) hx hb dL_law_33 (by decide) (by decide) (by decide) (by decide) ?_
        exact lc_stand l C0 hL hAe hK hG h8 hT hTM hR hkp ht1 ht2 ht3 htA htK hcN hsN hP hD hS hl nxt
      · refine lv_tableIn (off := 838) (tgt := 871) hx hb dL_law_33 (by decide) (by decide) (by decide) (by decide) ?_
        exact lc_shut l C0 hL hAe hK hG h8 hT hTM hR hkp ht1 ht2 ht3 htA htK hcN hsN hP hD hS hl nxt
      · refine lv_tableIn (off := 887) (tgt := 920) hx hb dL_law_33 (by decide) (by decide) (by decide) (by decide) ?_
        exact lc_feed l C0 hL hAe hK hG h8 hT hTM hR hkp ht1 ht2 ht3 htA htK hcN hsN hP hD hS hl nxt
      · refine lv_tableIn (off := 920) (tgt := 953) hx hb dL_law_33 (by decide) (by decide) (by decide) (by decide) ?_
        exact lc_wipe l C0 hL hAe hK hG h8 hT hTM hR hkp ht1 ht2 ht3 htA htK hcN hsN hP hD hS hl nxt
      · refine lv_tableIn (off := 933) (tgt := 966) hx hb dL_law_33 (by decide) (by decide) (by decide) (by decide) ?_
        exact lc_land l C0 hL hAe hK hG h8 hT hTM hR hkp ht1 ht2 ht3 htA htK hcN hsN hP hD hS hl nxt
      · refine lv_tableIn (off := 946) (tgt := 979) hx hb dL_law_33 (by decide) (by decide) (by decide) (by decide) ?_
        exact lc_roadOf l C0 hL hAe hK hG h8 hT hTM hR hkp ht1 ht2 ht3 htA htK hcN hsN hP hD hS hl nxt
      · refine lv_tableIn (off := 979) (tgt := 1012) hx hb dL_law_33 (by decide) (by decide) (by decide) (by decide) ?_
        exact lc_bridgeOf l C0 hL hAe hK hG h8 hT hTM hR hkp ht1 ht2 ht3 htA htK hcN hsN hP hD hS hl nxt
      · refine lv_tableIn (off := 1012) (tgt := 1045) hx hb dL_law_33 (by decide) (by decide) (by decide) (by decide) ?_
        exact lc_bears l C0 hL hAe hK hG h8 hT hTM hR hkp ht1 ht2 ht3 htA htK hcN hsN hP hD hS hl nxt
      · refine lv_tableIn (off := 1061) (tgt := 1094) hx hb dL_law_33 (by decide) (by decide) (by decide) (by decide) ?_
        exact lc_length l C0 hL hAe hK hG h8 hT hTM hR hkp ht1 ht2 ht3 htA htK hcN hsN hP hD hS hl nxt
      · refine lv_tableIn (off := 1084) (tgt := 1117) hx hb dL_law_33 (by decide) (by decide) (by decide) (by decide) ?_
        exact lc_axle l C0 hL hAe hK hG h8 hT hTM hR hkp ht1 ht2 ht3 htA htK hcN hsN hP hD hS hl nxt
      · refine lv_tableIn (off := 1117) (tgt := 1150) hx hb dL_law_33 (by decide) (by decide) (by decide) (by decide) ?_
        exact lc_strain l C0 hL hAe hK hG h8 hT hTM hR hkp ht1 ht2 ht3 htA htK hcN hsN hP hD hS hl nxt
      · refine lv_tableIn (off := 1160) (tgt := 1193) hx hb dL_law_33 (by decide) (by decide) (by decide) (by decide) ?_
        exact lc_needs l C0 hL hAe hK hG h8 hT hTM hR hkp ht1 ht2 ht3 htA htK hcN hsN hP hD hS hl nxt
      · refine lv_tableIn (off := 1203) (tgt := 1236) hx hb dL_law_33 (by decide) (by decide) (by decide) (by decide) ?_
        exact lc_goes l C0 hL hAe hK hG h8 hT hTM hR hkp ht1 ht2 ht3 htA htK hcN hsN hP hD hS hl nxt
      · refine lv_tableIn (off := 1256) (tgt := 1289) hx hb dL_law_33 (by decide) (by decide) (by decide) (by decide) ?_
        exact lc_cheapest l C0 hL hAe hK hG h8 hT hTM hR hkp ht1 ht2 ht3 htA htK hcN hsN hP hD hS hl nxt
      · refine lv_tableIn (off := 1309) (tgt := 1342) hx hb dL_law_33 (by decide) (by decide) (by decide) (by decide) ?_
        exact lc_soonest l C0 hL hAe hK hG h8 hT hTM hR hkp ht1 ht2 ht3 htA htK hcN hsN hP hD hS hl nxt
      · refine lv_tableIn (off := 1362) (tgt := 1395) hx hb dL_law_33 (by decide) (by decide) (by decide) (by decide) ?_
        exact lc_again l C0 hL hAe hK hG h8 hT hTM hR hkp ht1 ht2 ht3 htA htK hcN hsN hP hD hS hl nxt
      · refine lv_tableIn (off := 1425) (tgt := 1458) hx hb dL_law_33 (by decide) (by decide) (by decide) (by decide) ?_
        exact lc_best l C0 hL hAe hK hG h8 hT hTM hR hkp ht1 ht2 ht3 htA htK hcN hsN hP hD hS hl nxt
      · refine lv_tableIn (off := 1468) (tgt := 1501) hx hb dL_law_33 (by decide) (by decide) (by decide) (by decide) ?_
        exact lc_judge l C0 hL hAe hK hG h8 hT hTM hR hkp ht1 ht2 ht3 htA htK hcN hsN hP hD hS hl nxt
      · refine lv_tableIn (off := 1531) (tgt := 1564) hx hb dL_law_33 (by decide) (by decide) (by decide) (by decide) ?_
        exact lc_told l C0 hL hAe hK hG h8 hT hTM hR hkp ht1 ht2 ht3 htA htK hcN hsN hP hD hS hl nxt
      · refine lv_tableIn (off := 1606) (tgt := 1639) hx hb dL_law_33 (by decide) (by decide) (by decide) (by decide) ?_
        exact lc_reach l C0 hL hAe hK hG h8 hT hTM hR hkp ht1 ht2 ht3 htA htK hcN hsN hP hD hS hl nxt
      · refine lv_tableIn (off := 1649) (tgt := 1682) hx hb dL_law_33 (by decide) (by decide) (by decide) (by decide) ?_
        exact lc_hang l C0 hL hAe hK hG h8 hT hTM hR hkp ht1 ht2 ht3 htA htK hcN hsN hP hD hS hl nxt
      · refine lv_tableIn (off := 1702) (tgt := 1735) hx hb dL_law_33 (by decide) (by decide) (by decide) (by decide) ?_
        exact lc_fewest l C0 hL hAe hK hG h8 hT hTM hR hkp ht1 ht2 ht3 htA htK hcN hsN hP hD hS hl nxt
      · refine lv_tableIn (off := 1745) (tgt := 1778) hx hb dL_law_33 (by decide) (by decide) (by decide) (by decide) ?_
        exact lc_most l C0 hL hAe hK hG h8 hT hTM hR hkp ht1 ht2 ht3 htA htK hcN hsN hP hD hS hl nxt
      · refine lv_tableIn (off := 1788) (tgt := 1821) hx hb dL_law_33 (by decide) (by decide) (by decide) (by decide) ?_
        exact lc_frost l C0 hL hAe hK hG h8 hT hTM hR hkp ht1 ht2 ht3 htA htK hcN hsN hP hD hS hl nxt
      · refine lv_tableIn (off := 1875) (tgt := 1908) hx hb dL_law_33 (by decide) (by decide) (by decide) (by decide) ?_
        exact lc_begin l C0 hL hAe hK hG h8 hT hTM hR hkp ht1 ht2 ht3 htA htK hcN hsN hP hD hS hl nxt
      · refine lv_tableIn (off := 1928) (tgt := 1961) hx hb dL_law_33 (by decide) (by decide) (by decide) (by decide) ?_
        exact lc_step l C0 hL hAe hK hG h8 hT hTM hR hkp ht1 ht2 ht3 htA htK hcN hsN hP hD hS hl nxt
      · refine lv_tableIn (off := 1941) (tgt := 1974) hx hb dL_law_33 (by decide) (by decide) (by decide) (by decide) ?_
        exact lc_under l C0 hL hAe hK hG h8 hT hTM hR hkp ht1 ht2 ht3 htA htK hcN hsN hP hD hS hl nxt
      · refine lv_tableIn (off := 1964) (tgt := 1997) hx hb dL_law_33 (by decide) (by decide) (by decide) (by decide) ?_
        exact lc_image l C0 hL hAe hK hG h8 hT hTM hR hkp ht1 ht2 ht3 htA htK hcN hsN hP hD hS hl nxt
      · refine lv_tableIn (off := 1977) (tgt := 2010) hx hb dL_law_33 (by decide) (by decide) (by decide) (by decide) ?_
        exact lc_back l C0 hL hAe hK hG h8 hT hTM hR hkp ht1 ht2 ht3 htA htK hcN hsN hP hD hS hl nxt
      · refine lv_tableIn (off := 1990) (tgt := 2023) hx hb dL_law_33 (by decide) (by decide) (by decide) (by decide) ?_
        exact lc_status l C0 hL hAe hK hG h8 hT hTM hR hkp ht1 ht2 ht3 htA htK hcN hsN hP hD hS hl nxt
      · refine lv_tableOut (tgt := 2046) hx hb dL_law_33 (Or.inr (by rw [nI_toInt (by omega)]; omega)) (by decide) ?_
        exact nxt ma C M n cN sN H locs ls hT hTM hR hkp ht1 ht2 ht3 htA htK hcN hsN hP hD hS hl
    · refine lv_icmp_gt (tgt := 2052) hx hb dL_law_24 (by decide) (fun _ => ?_) (fun c => absurd ((lw_cmp hL hiL).mpr h8) c)
      refine lv_iconst (v := 1) hx hb dL_law_2052 (by decide) ?_
      refine va_forget (fun q hq => by have h := hS.2.2 q hq; rw [hAe] at h; exact h) ?_
      refine W.widen (k := 600000) (n := 7302250) (by omega) (by omega) ?_
      exact lw_ret hx hb hr hlocks dL_law_2053
theorem ph_inn {gs : List Nat} {l ws : List Cond} (h : ph_pick gs l = ws) : ∀ w ∈ ws, w ∈ l := fun w hw => ph_mem gs l w (h ▸ hw)
set_option maxRecDepth 100000 in
set_option maxHeartbeats 4000000 in
theorem lw_sc0 : ∀ x ∈ ([Cond.exactly (Term.string "OneHeavyLoad$Reader" 61) "java/lang/String", Cond.eq (.field (Term.string "OneHeavyLoad$Reader" 61) "java/lang/String" "coder" "B") (.int 0), Cond.arrayOf (.field (Term.string "OneHeavyLoad$Reader" 61) "java/lang/String" "value" "[B") .byte, Cond.eq (.length (.field (Term.string "OneHeavyLoad$Reader" 61) "java/lang/String" "value" "[B")) (.int (Int32.ofNat 4)), Cond.eq (.elem (.field (Term.string "OneHeavyLoad$Reader" 61) "java/lang/String" "value" "[B") (.int (Int32.ofNat 0))) (.int 114), Cond.eq (.elem (.field (Term.string "OneHeavyLoad$Reader" 61) "java/lang/String" "value" "[B") (.int (Int32.ofNat 1))) (.int 111), Cond.eq (.elem (.field (Term.string "OneHeavyLoad$Reader" 61) "java/lang/String" "value" "[B") (.int (Int32.ofNat 2))) (.int 97), Cond.eq (.elem (.field (Term.string "OneHeavyLoad$Reader" 61) "java/lang/String" "value" "[B") (.int (Int32.ofNat 3))) (.int 100), Cond.exactly (Term.string "OneHeavyLoad$Reader" 117) "java/lang/String", Cond.eq (.field (Term.string "OneHeavyLoad$Reader" 117) "java/lang/String" "coder" "B") (.int 0), Cond.arrayOf (.field (Term.string "OneHeavyLoad$Reader" 117) "java/lang/String" "value" "[B") .byte, Cond.eq (.length (.field (Term.string "OneHeavyLoad$Reader" 117) "java/lang/String" "value" "[B")) (.int (Int32.ofNat 5)), Cond.eq (.elem (.field (Term.string "OneHeavyLoad$Reader" 117) "java/lang/String" "value" "[B") (.int (Int32.ofNat 0))) (.int 109), Cond.eq (.elem (.field (Term.string "OneHeavyLoad$Reader" 117) "java/lang/String" "value" "[B") (.int (Int32.ofNat 1))) (.int 105), Cond.eq (.elem (.field (Term.string "OneHeavyLoad$Reader" 117) "java/lang/String" "value" "[B") (.int (Int32.ofNat 2))) (.int 108), Cond.eq (.elem (.field (Term.string "OneHeavyLoad$Reader" 117) "java/lang/String" "value" "[B") (.int (Int32.ofNat 3))) (.int 101), Cond.eq (.elem (.field (Term.string "OneHeavyLoad$Reader" 117) "java/lang/String" "value" "[B") (.int (Int32.ofNat 4))) (.int 115), Cond.exactly (Term.string "OneHeavyLoad$Reader" 123) "java/lang/String", Cond.eq (.field (Term.string "OneHeavyLoad$Reader" 123) "java/lang/String" "coder" "B") (.int 0), Cond.arrayOf (.field (Term.string "OneHeavyLoad$Reader" 123) "java/lang/String" "value" "[B") .byte, Cond.eq (.length (.field (Term.string "OneHeavyLoad$Reader" 123) "java/lang/String" "value" "[B")) (.int (Int32.ofNat 4)), Cond.eq (.elem (.field (Term.string "OneHeavyLoad$Reader" 123) "java/lang/String" "value" "[B") (.int (Int32.ofNat 0))) (.int 114), Cond.eq (.elem (.field (Term.string "OneHeavyLoad$Reader" 123) "java/lang/String" "value" "[B") (.int (Int32.ofNat 1))) (.int 105), Cond.eq (.elem (.field (Term.string "OneHeavyLoad$Reader" 123) "java/lang/String" "value" "[B") (.int (Int32.ofNat 2))) (.int 115), Cond.eq (.elem (.field (Term.string "OneHeavyLoad$Reader" 123) "java/lang/String" "value" "[B") (.int (Int32.ofNat 3))) (.int 101), Cond.exactly (Term.string "OneHeavyLoad$Reader" 129) "java/lang/String", Cond.eq (.field (Term.string "OneHeavyLoad$Reader" 129) "java/lang/String" "coder" "B") (.int 0), Cond.arrayOf (.field (Term.string "OneHeavyLoad$Reader" 129) "java/lang/String" "value" "[B") .byte, Cond.eq (.length (.field (Term.string "OneHeavyLoad$Reader" 129) "java/lang/String" "value" "[B")) (.int (Int32.ofNat 4)), Cond.eq (.elem (.field (Term.string "OneHeavyLoad$Reader" 129) "java/lang/String" "value" "[B") (.int (Int32.ofNat 0))) (.int 116), Cond.eq (.elem (.field (Term.string "OneHeavyLoad$Reader" 129) "java/lang/String" "value" "[B") (.int (Int32.ofNat 1))) (.int 117), Cond.eq (.elem (.field (Term.string "OneHeavyLoad$Reader" 129) "java/lang/String" "value" "[B") (.int (Int32.ofNat 2))) (.int 114), Cond.eq (.elem (.field (Term.string "OneHeavyLoad$Reader" 129) "java/lang/String" "value" "[B") (.int (Int32.ofNat 3))) (.int 110), Cond.exactly (Term.string "OneHeavyLoad$Reader" 131) "java/lang/String", Cond.eq (.field (Term.string "OneHeavyLoad$Reader" 131) "java/lang/String" "coder" "B") (.int 0), Cond.arrayOf (.field (Term.string "OneHeavyLoad$Reader" 131) "java/lang/String" "value" "[B") .byte, Cond.eq (.length (.field (Term.string "OneHeavyLoad$Reader" 131) "java/lang/String" "value" "[B")) (.int (Int32.ofNat 6)), Cond.eq (.elem (.field (Term.string "OneHeavyLoad$Reader" 131) "java/lang/String" "value" "[B") (.int (Int32.ofNat 0))) (.int 112), Cond.eq (.elem (.field (Term.string "OneHeavyLoad$Reader" 131) "java/lang/String" "value" "[B") (.int (Int32.ofNat 1))) (.int 97), Cond.eq (.elem (.field (Term.string "OneHeavyLoad$Reader" 131) "java/lang/String" "value" "[B") (.int (Int32.ofNat 2))) (.int 114), Cond.eq (.elem (.field (Term.string "OneHeavyLoad$Reader" 131) "java/lang/String" "value" "[B") (.int (Int32.ofNat 3))) (.int 105), Cond.eq (.elem (.field (Term.string "OneHeavyLoad$Reader" 131) "java/lang/String" "value" "[B") (.int (Int32.ofNat 4))) (.int 115), Cond.eq (.elem (.field (Term.string "OneHeavyLoad$Reader" 131) "java/lang/String" "value" "[B") (.int (Int32.ofNat 5))) (.int 104), Cond.exactly (Term.string "OneHeavyLoad$Reader" 70) "java/lang/String", Cond.eq (.field (Term.string "OneHeavyLoad$Reader" 70) "java/lang/String" "coder" "B") (.int 0), Cond.arrayOf (.field (Term.string "OneHeavyLoad$Reader" 70) "java/lang/String" "value" "[B") .byte, Cond.eq (.length (.field (Term.string "OneHeavyLoad$Reader" 70) "java/lang/String" "value" "[B")) (.int (Int32.ofNat 6)), Cond.eq (.elem (.field (Term.string "OneHeavyLoad$Reader" 70) "java/lang/String" "value" "[B") (.int (Int32.ofNat 0))) (.int 98), Cond.eq (.elem (.field (Term.string "OneHeavyLoad$Reader" 70) "java/lang/String" "value" "[B") (.int (Int32.ofNat 1))) (.int 114), Cond.eq (.elem (.field (Term.string "OneHeavyLoad$Reader" 70) "java/lang/String" "value" "[B") (.int (Int32.ofNat 2))) (.int 105), Cond.eq (.elem (.field (Term.string "OneHeavyLoad$Reader" 70) "java/lang/String" "value" "[B") (.int (Int32.ofNat 3))) (.int 100), Cond.eq (.elem (.field (Term.string "OneHeavyLoad$Reader" 70) "java/lang/String" "value" "[B") (.int (Int32.ofNat 4))) (.int 103), Cond.eq (.elem (.field (Term.string "OneHeavyLoad$Reader" 70) "java/lang/String" "value" "[B") (.int (Int32.ofNat 5))) (.int 101), Cond.exactly (Term.string "OneHeavyLoad$Reader" 137) "java/lang/String", Cond.eq (.field (Term.string "OneHeavyLoad$Reader" 137) "java/lang/String" "coder" "B") (.int 0), Cond.arrayOf (.field (Term.string "OneHeavyLoad$Reader" 137) "java/lang/String" "value" "[B") .byte, Cond.eq (.length (.field (Term.string "OneHeavyLoad$Reader" 137) "java/lang/String" "value" "[B")) (.int (Int32.ofNat 4)), Cond.eq (.elem (.field (Term.string "OneHeavyLoad$Reader" 137) "java/lang/String" "value" "[B") (.int (Int32.ofNat 0))) (.int 107), Cond.eq (.elem (.field (Term.string "OneHeavyLoad$Reader" 137) "java/lang/String" "value" "[B") (.int (Int32.ofNat 1))) (.int 105), Cond.eq (.elem (.field (Term.string "OneHeavyLoad$Reader" 137) "java/lang/String" "value" "[B") (.int (Int32.ofNat 2))) (.int 110)] : List Cond), x ∈ flatC (Jvm.Cond.and given_1 narrow_1) := ph_inn (gs := [31, 0, 0, 0, 0, 0, 0, 0, 0, 0, 0, 0, 0, 0, 0, 0, 0, 0, 0, 0, 0, 0, 0, 0, 0, 0, 0, 0, 0, 0, 0, 0, 0, 0, 0, 0, 0, 0, 0, 0, 0, 0, 0, 0, 0, 0, 0, 0, 0, 0, 0, 0, 0, 0, 0, 0, 0, 0, 0, 0]) (by decide +kernel)
set_option maxRecDepth 100000 in
set_option maxHeartbeats 4000000 in
theorem lw_sc1 : ∀ x ∈ ([Cond.eq (.elem (.field (Term.string "OneHeavyLoad$Reader" 137) "java/lang/String" "value" "[B") (.int (Int32.ofNat 3))) (.int 100), Cond.exactly (Term.string "OneHeavyLoad$Reader" 139) "java/lang/String", Cond.eq (.field (Term.string "OneHeavyLoad$Reader" 139) "java/lang/String" "coder" "B") (.int 0), Cond.arrayOf (.field (Term.string "OneHeavyLoad$Reader" 139) "java/lang/String" "value" "[B") .byte, Cond.eq (.length (.field (Term.string "OneHeavyLoad$Reader" 139) "java/lang/String" "value" "[B")) (.int (Int32.ofNat 4)), Cond.eq (.elem (.field (Term.string "OneHeavyLoad$Reader" 139) "java/lang/String" "value" "[B") (.int (Int32.ofNat 0))) (.int 115), Cond.eq (.elem (.field (Term.string "OneHeavyLoad$Reader" 139) "java/lang/String" "value" "[B") (.int (Int32.ofNat 1))) (.int 112), Cond.eq (.elem (.field (Term.string "OneHeavyLoad$Reader" 139) "java/lang/String" "value" "[B") (.int (Int32.ofNat 2))) (.int 97), Cond.eq (.elem (.field (Term.string "OneHeavyLoad$Reader" 139) "java/lang/String" "value" "[B") (.int (Int32.ofNat 3))) (.int 110), Cond.exactly (Term.string "OneHeavyLoad$Reader" 141) "java/lang/String", Cond.eq (.field (Term.string "OneHeavyLoad$Reader" 141) "java/lang/String" "coder" "B") (.int 0), Cond.arrayOf (.field (Term.string "OneHeavyLoad$Reader" 141) "java/lang/String" "value" "[B") .byte, Cond.eq (.length (.field (Term.string "OneHeavyLoad$Reader" 141) "java/lang/String" "value" "[B")) (.int (Int32.ofNat 4)), Cond.eq (.elem (.field (Term.string "OneHeavyLoad$Reader" 141) "java/lang/String" "value" "[B") (.int (Int32.ofNat 0))) (.int 97), Cond.eq (.elem (.field (Term.string "OneHeavyLoad$Reader" 141) "java/lang/String" "value" "[B") (.int (Int32.ofNat 1))) (.int 120), Cond.eq (.elem (.field (Term.string "OneHeavyLoad$Reader" 141) "java/lang/String" "value" "[B") (.int (Int32.ofNat 2))) (.int 108), Cond.eq (.elem (.field (Term.string "OneHeavyLoad$Reader" 141) "java/lang/String" "value" "[B") (.int (Int32.ofNat 3))) (.int 101), Cond.exactly (Term.string "OneHeavyLoad$Reader" 143) "java/lang/String", Cond.eq (.field (Term.string "OneHeavyLoad$Reader" 143) "java/lang/String" "coder" "B") (.int 0), Cond.arrayOf (.field (Term.string "OneHeavyLoad$Reader" 143) "java/lang/String" "value" "[B") .byte, Cond.eq (.length (.field (Term.string "OneHeavyLoad$Reader" 143) "java/lang/String" "value" "[B")) (.int (Int32.ofNat 3)), Cond.eq (.elem (.field (Term.string "OneHeavyLoad$Reader" 143) "java/lang/String" "value" "[B") (.int (Int32.ofNat 0))) (.int 97), Cond.eq (.elem (.field (Term.string "OneHeavyLoad$Reader" 143) "java/lang/String" "value" "[B") (.int (Int32.ofNat 1))) (.int 108), Cond.eq (.elem (.field (Term.string "OneHeavyLoad$Reader" 143) "java/lang/String" "value" "[B") (.int (Int32.ofNat 2))) (.int 108), Cond.exactly (Term.string "OneHeavyLoad$Reader" 145) "java/lang/String", Cond.eq (.field (Term.string "OneHeavyLoad$Reader" 145) "java/lang/String" "coder" "B") (.int 0), Cond.arrayOf (.field (Term.string "OneHeavyLoad$Reader" 145) "java/lang/String" "value" "[B") .byte, Cond.eq (.length (.field (Term.string "OneHeavyLoad$Reader" 145) "java/lang/String" "value" "[B")) (.int (Int32.ofNat 4)), Cond.eq (.elem (.field (Term.string "OneHeavyLoad$Reader" 145) "java/lang/String" "value" "[B") (.int (Int32.ofNat 0))) (.int 112), Cond.eq (.elem (.field (Term.string "OneHeavyLoad$Reader" 145) "java/lang/String" "value" "[B") (.int (Int32.ofNat 1))) (.int 114), Cond.eq (.elem (.field (Term.string "OneHeavyLoad$Reader" 145) "java/lang/String" "value" "[B") (.int (Int32.ofNat 2))) (.int 111), Cond.eq (.elem (.field (Term.string "OneHeavyLoad$Reader" 145) "java/lang/String" "value" "[B") (.int (Int32.ofNat 3))) (.int 112), Cond.exactly (Term.string "OneHeavyLoad$Reader" 75) "java/lang/String", Cond.eq (.field (Term.string "OneHeavyLoad$Reader" 75) "java/lang/String" "coder" "B") (.int 0), Cond.arrayOf (.field (Term.string "OneHeavyLoad$Reader" 75) "java/lang/String" "value" "[B") .byte, Cond.eq (.length (.field (Term.string "OneHeavyLoad$Reader" 75) "java/lang/String" "value" "[B")) (.int (Int32.ofNat 6)), Cond.eq (.elem (.field (Term.string "OneHeavyLoad$Reader" 75) "java/lang/String" "value" "[B") (.int (Int32.ofNat 0))) (.int 119), Cond.eq (.elem (.field (Term.string "OneHeavyLoad$Reader" 75) "java/lang/String" "value" "[B") (.int (Int32.ofNat 1))) (.int 97), Cond.eq (.elem (.field (Term.string "OneHeavyLoad$Reader" 75) "java/lang/String" "value" "[B") (.int (Int32.ofNat 2))) (.int 103), Cond.eq (.elem (.field (Term.string "OneHeavyLoad$Reader" 75) "java/lang/String" "value" "[B") (.int (Int32.ofNat 3))) (.int 103), Cond.eq (.elem (.field (Term.string "OneHeavyLoad$Reader" 75) "java/lang/String" "value" "[B") (.int (Int32.ofNat 4))) (.int 111), Cond.eq (.elem (.field (Term.string "OneHeavyLoad$Reader" 75) "java/lang/String" "value" "[B") (.int (Int32.ofNat 5))) (.int 110), Cond.exactly (Term.string "OneHeavyLoad$Reader" 155) "java/lang/String", Cond.eq (.field (Term.string "OneHeavyLoad$Reader" 155) "java/lang/String" "coder" "B") (.int 0), Cond.arrayOf (.field (Term.string "OneHeavyLoad$Reader" 155) "java/lang/String" "value" "[B") .byte, Cond.eq (.length (.field (Term.string "OneHeavyLoad$Reader" 155) "java/lang/String" "value" "[B")) (.int (Int32.ofNat 5)), Cond.eq (.elem (.field (Term.string "OneHeavyLoad$Reader" 155) "java/lang/String" "value" "[B") (.int (Int32.ofNat 0))) (.int 115), Cond.eq (.elem (.field (Term.string "OneHeavyLoad$Reader" 155) "java/lang/String" "value" "[B") (.int (Int32.ofNat 1))) (.int 112), Cond.eq (.elem (.field (Term.string "OneHeavyLoad$Reader" 155) "java/lang/String" "value" "[B") (.int (Int32.ofNat 2))) (.int 97), Cond.eq (.elem (.field (Term.string "OneHeavyLoad$Reader" 155) "java/lang/String" "value" "[B") (.int (Int32.ofNat 3))) (.int 99), Cond.eq (.elem (.field (Term.string "OneHeavyLoad$Reader" 155) "java/lang/String" "value" "[B") (.int (Int32.ofNat 4))) (.int 101), Cond.exactly (Term.string "OneHeavyLoad$Reader" 157) "java/lang/String", Cond.eq (.field (Term.string "OneHeavyLoad$Reader" 157) "java/lang/String" "coder" "B") (.int 0), Cond.arrayOf (.field (Term.string "OneHeavyLoad$Reader" 157) "java/lang/String" "value" "[B") .byte, Cond.eq (.length (.field (Term.string "OneHeavyLoad$Reader" 157) "java/lang/String" "value" "[B")) (.int (Int32.ofNat 4)), Cond.eq (.elem (.field (Term.string "OneHeavyLoad$Reader" 157) "java/lang/String" "value" "[B") (.int (Int32.ofNat 0))) (.int 116), Cond.eq (.elem (.field (Term.string "OneHeavyLoad$Reader" 157) "java/lang/String" "value" "[B") (.int (Int32.ofNat 1))) (.int 97), Cond.eq (.elem (.field (Term.string "OneHeavyLoad$Reader" 157) "java/lang/String" "value" "[B") (.int (Int32.ofNat 2))) (.int 114), Cond.eq (.elem (.field (Term.string "OneHeavyLoad$Reader" 157) "java/lang/String" "value" "[B") (.int (Int32.ofNat 3))) (.int 101), Cond.exactly (Term.string "OneHeavyLoad$Reader" 80) "java/lang/String"] : List Cond), x ∈ flatC (Jvm.Cond.and given_1 narrow_1) := ph_inn (gs := [91, 0, 0, 0, 0, 0, 0, 0, 0, 0, 0, 0, 0, 0, 0, 0, 0, 0, 0, 0, 0, 0, 0, 0, 0, 0, 0, 0, 0, 0, 0, 0, 0, 0, 0, 0, 0, 0, 0, 0, 0, 0, 0, 0, 0, 0, 0, 0, 0, 0, 0, 0, 0, 0, 0, 0, 0, 0, 0, 0]) (by decide +kernel)
set_option maxRecDepth 100000 in
set_option maxHeartbeats 4000000 in
theorem lw_sc2 : ∀ x ∈ ([Cond.eq (.field (Term.string "OneHeavyLoad$Reader" 80) "java/lang/String" "coder" "B") (.int 0), Cond.arrayOf (.field (Term.string "OneHeavyLoad$Reader" 80) "java/lang/String" "value" "[B") .byte, Cond.eq (.length (.field (Term.string "OneHeavyLoad$Reader" 80) "java/lang/String" "value" "[B")) (.int (Int32.ofNat 4)), Cond.eq (.elem (.field (Term.string "OneHeavyLoad$Reader" 80) "java/lang/String" "value" "[B") (.int (Int32.ofNat 0))) (.int 112), Cond.eq (.elem (.field (Term.string "OneHeavyLoad$Reader" 80) "java/lang/String" "value" "[B") (.int (Int32.ofNat 1))) (.int 97), Cond.eq (.elem (.field (Term.string "OneHeavyLoad$Reader" 80) "java/lang/String" "value" "[B") (.int (Int32.ofNat 2))) (.int 114), Cond.eq (.elem (.field (Term.string "OneHeavyLoad$Reader" 80) "java/lang/String" "value" "[B") (.int (Int32.ofNat 3))) (.int 116), Cond.exactly (Term.string "OneHeavyLoad$Reader" 85) "java/lang/String", Cond.eq (.field (Term.string "OneHeavyLoad$Reader" 85) "java/lang/String" "coder" "B") (.int 0), Cond.arrayOf (.field (Term.string "OneHeavyLoad$Reader" 85) "java/lang/String" "value" "[B") .byte, Cond.eq (.length (.field (Term.string "OneHeavyLoad$Reader" 85) "java/lang/String" "value" "[B")) (.int (Int32.ofNat 4)), Cond.eq (.elem (.field (Term.string "OneHeavyLoad$Reader" 85) "java/lang/String" "value" "[B") (.int (Int32.ofNat 0))) (.int 108), Cond.eq (.elem (.field (Term.string "OneHeavyLoad$Reader" 85) "java/lang/String" "value" "[B") (.int (Int32.ofNat 1))) (.int 111), Cond.eq (.elem (.field (Term.string "OneHeavyLoad$Reader" 85) "java/lang/String" "value" "[B") (.int (Int32.ofNat 2))) (.int 97), Cond.eq (.elem (.field (Term.string "OneHeavyLoad$Reader" 85) "java/lang/String" "value" "[B") (.int (Int32.ofNat 3))) (.int 100), Cond.exactly (Term.string "OneHeavyLoad$Reader" 94) "java/lang/String", Cond.eq (.field (Term.string "OneHeavyLoad$Reader" 94) "java/lang/String" "coder" "B") (.int 0), Cond.arrayOf (.field (Term.string "OneHeavyLoad$Reader" 94) "java/lang/String" "value" "[B") .byte, Cond.eq (.length (.field (Term.string "OneHeavyLoad$Reader" 94) "java/lang/String" "value" "[B")) (.int (Int32.ofNat 4)), Cond.eq (.elem (.field (Term.string "OneHeavyLoad$Reader" 94) "java/lang/String" "value" "[B") (.int (Int32.ofNat 0))) (.int 109), Cond.eq (.elem (.field (Term.string "OneHeavyLoad$Reader" 94) "java/lang/String" "value" "[B") (.int (Int32.ofNat 1))) (.int 105), Cond.eq (.elem (.field (Term.string "OneHeavyLoad$Reader" 94) "java/lang/String" "value" "[B") (.int (Int32.ofNat 2))) (.int 108), Cond.eq (.elem (.field (Term.string "OneHeavyLoad$Reader" 94) "java/lang/String" "value" "[B") (.int (Int32.ofNat 3))) (.int 101), Cond.exactly (Term.string "OneHeavyLoadModel" 200) "java/lang/String", Cond.eq (.field (Term.string "OneHeavyLoadModel" 200) "java/lang/String" "coder" "B") (.int 0), Cond.arrayOf (.field (Term.string "OneHeavyLoadModel" 200) "java/lang/String" "value" "[B") .byte, Cond.eq (.length (.field (Term.string "OneHeavyLoadModel" 200) "java/lang/String" "value" "[B")) (.int (Int32.ofNat 4)), Cond.eq (.elem (.field (Term.string "OneHeavyLoadModel" 200) "java/lang/String" "value" "[B") (.int (Int32.ofNat 0))) (.int 114), Cond.eq (.elem (.field (Term.string "OneHeavyLoadModel" 200) "java/lang/String" "value" "[B") (.int (Int32.ofNat 1))) (.int 111), Cond.eq (.elem (.field (Term.string "OneHeavyLoadModel" 200) "java/lang/String" "value" "[B") (.int (Int32.ofNat 2))) (.int 97), Cond.eq (.elem (.field (Term.string "OneHeavyLoadModel" 200) "java/lang/String" "value" "[B") (.int (Int32.ofNat 3))) (.int 100), Cond.exactly (Term.string "OneHeavyLoadModel" 219) "java/lang/String", Cond.eq (.field (Term.string "OneHeavyLoadModel" 219) "java/lang/String" "coder" "B") (.int 0), Cond.arrayOf (.field (Term.string "OneHeavyLoadModel" 219) "java/lang/String" "value" "[B") .byte, Cond.eq (.length (.field (Term.string "OneHeavyLoadModel" 219) "java/lang/String" "value" "[B")) (.int (Int32.ofNat 5)), Cond.eq (.elem (.field (Term.string "OneHeavyLoadModel" 219) "java/lang/String" "value" "[B") (.int (Int32.ofNat 0))) (.int 109), Cond.eq (.elem (.field (Term.string "OneHeavyLoadModel" 219) "java/lang/String" "value" "[B") (.int (Int32.ofNat 1))) (.int 105), Cond.eq (.elem (.field (Term.string "OneHeavyLoadModel" 219) "java/lang/String" "value" "[B") (.int (Int32.ofNat 2))) (.int 108), Cond.eq (.elem (.field (Term.string "OneHeavyLoadModel" 219) "java/lang/String" "value" "[B") (.int (Int32.ofNat 3))) (.int 101), Cond.eq (.elem (.field (Term.string "OneHeavyLoadModel" 219) "java/lang/String" "value" "[B") (.int (Int32.ofNat 4))) (.int 115), Cond.exactly (Term.string "OneHeavyLoadModel" 221) "java/lang/String", Cond.eq (.field (Term.string "OneHeavyLoadModel" 221) "java/lang/String" "coder" "B") (.int 0), Cond.arrayOf (.field (Term.string "OneHeavyLoadModel" 221) "java/lang/String" "value" "[B") .byte, Cond.eq (.length (.field (Term.string "OneHeavyLoadModel" 221) "java/lang/String" "value" "[B")) (.int (Int32.ofNat 4)), Cond.eq (.elem (.field (Term.string "OneHeavyLoadModel" 221) "java/lang/String" "value" "[B") (.int (Int32.ofNat 0))) (.int 114), Cond.eq (.elem (.field (Term.string "OneHeavyLoadModel" 221) "java/lang/String" "value" "[B") (.int (Int32.ofNat 1))) (.int 105), Cond.eq (.elem (.field (Term.string "OneHeavyLoadModel" 221) "java/lang/String" "value" "[B") (.int (Int32.ofNat 2))) (.int 115), Cond.eq (.elem (.field (Term.string "OneHeavyLoadModel" 221) "java/lang/String" "value" "[B") (.int (Int32.ofNat 3))) (.int 101), Cond.exactly (Term.string "OneHeavyLoadModel" 226) "java/lang/String", Cond.eq (.field (Term.string "OneHeavyLoadModel" 226) "java/lang/String" "coder" "B") (.int 0), Cond.arrayOf (.field (Term.string "OneHeavyLoadModel" 226) "java/lang/String" "value" "[B") .byte, Cond.eq (.length (.field (Term.string "OneHeavyLoadModel" 226) "java/lang/String" "value" "[B")) (.int (Int32.ofNat 4)), Cond.eq (.elem (.field (Term.string "OneHeavyLoadModel" 226) "java/lang/String" "value" "[B") (.int (Int32.ofNat 0))) (.int 116), Cond.eq (.elem (.field (Term.string "OneHeavyLoadModel" 226) "java/lang/String" "value" "[B") (.int (Int32.ofNat 1))) (.int 117), Cond.eq (.elem (.field (Term.string "OneHeavyLoadModel" 226) "java/lang/String" "value" "[B") (.int (Int32.ofNat 2))) (.int 114), Cond.eq (.elem (.field (Term.string "OneHeavyLoadModel" 226) "java/lang/String" "value" "[B") (.int (Int32.ofNat 3))) (.int 110), Cond.exactly (Term.string "OneHeavyLoadModel" 228) "java/lang/String", Cond.eq (.field (Term.string "OneHeavyLoadModel" 228) "java/lang/String" "coder" "B") (.int 0), Cond.arrayOf (.field (Term.string "OneHeavyLoadModel" 228) "java/lang/String" "value" "[B") .byte, Cond.eq (.length (.field (Term.string "OneHeavyLoadModel" 228) "java/lang/String" "value" "[B")) (.int (Int32.ofNat 6))] : List Cond), x ∈ flatC (Jvm.Cond.and given_1 narrow_1) := ph_inn (gs := [151, 0, 0, 0, 0, 0, 0, 0, 0, 0, 0, 0, 0, 0, 0, 0, 0, 0, 0, 0, 0, 0, 0, 0, 0, 0, 0, 0, 0, 0, 0, 1, 0, 0, 0, 0, 0, 0, 0, 0, 1, 0, 0, 0, 0, 0, 0, 0, 1, 0, 0, 0, 0, 0, 0, 0, 1, 0, 0, 0]) (by decide +kernel)
set_option maxRecDepth 100000 in
set_option maxHeartbeats 4000000 in
theorem lw_sc3 : ∀ x ∈ ([Cond.eq (.elem (.field (Term.string "OneHeavyLoadModel" 228) "java/lang/String" "value" "[B") (.int (Int32.ofNat 0))) (.int 112), Cond.eq (.elem (.field (Term.string "OneHeavyLoadModel" 228) "java/lang/String" "value" "[B") (.int (Int32.ofNat 1))) (.int 97), Cond.eq (.elem (.field (Term.string "OneHeavyLoadModel" 228) "java/lang/String" "value" "[B") (.int (Int32.ofNat 2))) (.int 114), Cond.eq (.elem (.field (Term.string "OneHeavyLoadModel" 228) "java/lang/String" "value" "[B") (.int (Int32.ofNat 3))) (.int 105), Cond.eq (.elem (.field (Term.string "OneHeavyLoadModel" 228) "java/lang/String" "value" "[B") (.int (Int32.ofNat 4))) (.int 115), Cond.eq (.elem (.field (Term.string "OneHeavyLoadModel" 228) "java/lang/String" "value" "[B") (.int (Int32.ofNat 5))) (.int 104), Cond.exactly (Term.string "OneHeavyLoadModel" 205) "java/lang/String", Cond.eq (.field (Term.string "OneHeavyLoadModel" 205) "java/lang/String" "coder" "B") (.int 0), Cond.arrayOf (.field (Term.string "OneHeavyLoadModel" 205) "java/lang/String" "value" "[B") .byte, Cond.eq (.length (.field (Term.string "OneHeavyLoadModel" 205) "java/lang/String" "value" "[B")) (.int (Int32.ofNat 6)), Cond.eq (.elem (.field (Term.string "OneHeavyLoadModel" 205) "java/lang/String" "value" "[B") (.int (Int32.ofNat 0))) (.int 98), Cond.eq (.elem (.field (Term.string "OneHeavyLoadModel" 205) "java/lang/String" "value" "[B") (.int (Int32.ofNat 1))) (.int 114), Cond.eq (.elem (.field (Term.string "OneHeavyLoadModel" 205) "java/lang/String" "value" "[B") (.int (Int32.ofNat 2))) (.int 105), Cond.eq (.elem (.field (Term.string "OneHeavyLoadModel" 205) "java/lang/String" "value" "[B") (.int (Int32.ofNat 3))) (.int 100), Cond.eq (.elem (.field (Term.string "OneHeavyLoadModel" 205) "java/lang/String" "value" "[B") (.int (Int32.ofNat 4))) (.int 103), Cond.eq (.elem (.field (Term.string "OneHeavyLoadModel" 205) "java/lang/String" "value" "[B") (.int (Int32.ofNat 5))) (.int 101), Cond.exactly (Term.string "OneHeavyLoadModel" 230) "java/lang/String", Cond.eq (.field (Term.string "OneHeavyLoadModel" 230) "java/lang/String" "coder" "B") (.int 0), Cond.arrayOf (.field (Term.string "OneHeavyLoadModel" 230) "java/lang/String" "value" "[B") .byte, Cond.eq (.length (.field (Term.string "OneHeavyLoadModel" 230) "java/lang/String" "value" "[B")) (.int (Int32.ofNat 4)), Cond.eq (.elem (.field (Term.string "OneHeavyLoadModel" 230) "java/lang/String" "value" "[B") (.int (Int32.ofNat 0))) (.int 107), Cond.eq (.elem (.field (Term.string "OneHeavyLoadModel" 230) "java/lang/String" "value" "[B") (.int (Int32.ofNat 1))) (.int 105), Cond.eq (.elem (.field (Term.string "OneHeavyLoadModel" 230) "java/lang/String" "value" "[B") (.int (Int32.ofNat 2))) (.int 110), Cond.eq (.elem (.field (Term.string "OneHeavyLoadModel" 230) "java/lang/String" "value" "[B") (.int (Int32.ofNat 3))) (.int 100), Cond.exactly (Term.string "OneHeavyLoadModel" 232) "java/lang/String", Cond.eq (.field (Term.string "OneHeavyLoadModel" 232) "java/lang/String" "coder" "B") (.int 0), Cond.arrayOf (.field (Term.string "OneHeavyLoadModel" 232) "java/lang/String" "value" "[B") .byte, Cond.eq (.length (.field (Term.string "OneHeavyLoadModel" 232) "java/lang/String" "value" "[B")) (.int (Int32.ofNat 4)), Cond.eq (.elem (.field (Term.string "OneHeavyLoadModel" 232) "java/lang/String" "value" "[B") (.int (Int32.ofNat 0))) (.int 115), Cond.eq (.elem (.field (Term.string "OneHeavyLoadModel" 232) "java/lang/String" "value" "[B") (.int (Int32.ofNat 1))) (.int 112), Cond.eq (.elem (.field (Term.string "OneHeavyLoadModel" 232) "java/lang/String" "value" "[B") (.int (Int32.ofNat 2))) (.int 97), Cond.eq (.elem (.field (Term.string "OneHeavyLoadModel" 232) "java/lang/String" "value" "[B") (.int (Int32.ofNat 3))) (.int 110), Cond.exactly (Term.string "OneHeavyLoadModel" 234) "java/lang/String", Cond.eq (.field (Term.string "OneHeavyLoadModel" 234) "java/lang/String" "coder" "B") (.int 0), Cond.arrayOf (.field (Term.string "OneHeavyLoadModel" 234) "java/lang/String" "value" "[B") .byte, Cond.eq (.length (.field (Term.string "OneHeavyLoadModel" 234) "java/lang/String" "value" "[B")) (.int (Int32.ofNat 4)), Cond.eq (.elem (.field (Term.string "OneHeavyLoadModel" 234) "java/lang/String" "value" "[B") (.int (Int32.ofNat 0))) (.int 97), Cond.eq (.elem (.field (Term.string "OneHeavyLoadModel" 234) "java/lang/String" "value" "[B") (.int (Int32.ofNat 1))) (.int 120), Cond.eq (.elem (.field (Term.string "OneHeavyLoadModel" 234) "java/lang/String" "value" "[B") (.int (Int32.ofNat 2))) (.int 108), Cond.eq (.elem (.field (Term.string "OneHeavyLoadModel" 234) "java/lang/String" "value" "[B") (.int (Int32.ofNat 3))) (.int 101), Cond.exactly (Term.string "OneHeavyLoadModel" 236) "java/lang/String", Cond.eq (.field (Term.string "OneHeavyLoadModel" 236) "java/lang/String" "coder" "B") (.int 0), Cond.arrayOf (.field (Term.string "OneHeavyLoadModel" 236) "java/lang/String" "value" "[B") .byte, Cond.eq (.length (.field (Term.string "OneHeavyLoadModel" 236) "java/lang/String" "value" "[B")) (.int (Int32.ofNat 3)), Cond.eq (.elem (.field (Term.string "OneHeavyLoadModel" 236) "java/lang/String" "value" "[B") (.int (Int32.ofNat 0))) (.int 97), Cond.eq (.elem (.field (Term.string "OneHeavyLoadModel" 236) "java/lang/String" "value" "[B") (.int (Int32.ofNat 1))) (.int 108), Cond.eq (.elem (.field (Term.string "OneHeavyLoadModel" 236) "java/lang/String" "value" "[B") (.int (Int32.ofNat 2))) (.int 108), Cond.exactly (Term.string "OneHeavyLoadModel" 238) "java/lang/String", Cond.eq (.field (Term.string "OneHeavyLoadModel" 238) "java/lang/String" "coder" "B") (.int 0), Cond.arrayOf (.field (Term.string "OneHeavyLoadModel" 238) "java/lang/String" "value" "[B") .byte, Cond.eq (.length (.field (Term.string "OneHeavyLoadModel" 238) "java/lang/String" "value" "[B")) (.int (Int32.ofNat 4)), Cond.eq (.elem (.field (Term.string "OneHeavyLoadModel" 238) "java/lang/String" "value" "[B") (.int (Int32.ofNat 0))) (.int 112), Cond.eq (.elem (.field (Term.string "OneHeavyLoadModel" 238) "java/lang/String" "value" "[B") (.int (Int32.ofNat 1))) (.int 114), Cond.eq (.elem (.field (Term.string "OneHeavyLoadModel" 238) "java/lang/String" "value" "[B") (.int (Int32.ofNat 2))) (.int 111), Cond.eq (.elem (.field (Term.string "OneHeavyLoadModel" 238) "java/lang/String" "value" "[B") (.int (Int32.ofNat 3))) (.int 112), Cond.exactly (Term.string "OneHeavyLoadModel" 209) "java/lang/String", Cond.eq (.field (Term.string "OneHeavyLoadModel" 209) "java/lang/String" "coder" "B") (.int 0), Cond.arrayOf (.field (Term.string "OneHeavyLoadModel" 209) "java/lang/String" "value" "[B") .byte, Cond.eq (.length (.field (Term.string "OneHeavyLoadModel" 209) "java/lang/String" "value" "[B")) (.int (Int32.ofNat 6)), Cond.eq (.elem (.field (Term.string "OneHeavyLoadModel" 209) "java/lang/String" "value" "[B") (.int (Int32.ofNat 0))) (.int 119)] : List Cond), x ∈ flatC (Jvm.Cond.and given_1 narrow_1) := ph_inn (gs := [215, 0, 0, 0, 0, 0, 1, 0, 0, 0, 0, 0, 0, 0, 0, 0, 1, 0, 0, 0, 0, 0, 0, 0, 1, 0, 0, 0, 0, 0, 0, 0, 1, 0, 0, 0, 0, 0, 0, 0, 1, 0, 0, 0, 0, 0, 0, 1, 0, 0, 0, 0, 0, 0, 0, 1, 0, 0, 0, 0]) (by decide +kernel)
set_option maxRecDepth 100000 in
set_option maxHeartbeats 4000000 in
theorem lw_sc4 : ∀ x ∈ ([Cond.eq (.elem (.field (Term.string "OneHeavyLoadModel" 209) "java/lang/String" "value" "[B") (.int (Int32.ofNat 1))) (.int 97), Cond.eq (.elem (.field (Term.string "OneHeavyLoadModel" 209) "java/lang/String" "value" "[B") (.int (Int32.ofNat 2))) (.int 103), Cond.eq (.elem (.field (Term.string "OneHeavyLoadModel" 209) "java/lang/String" "value" "[B") (.int (Int32.ofNat 3))) (.int 103), Cond.eq (.elem (.field (Term.string "OneHeavyLoadModel" 209) "java/lang/String" "value" "[B") (.int (Int32.ofNat 4))) (.int 111), Cond.eq (.elem (.field (Term.string "OneHeavyLoadModel" 209) "java/lang/String" "value" "[B") (.int (Int32.ofNat 5))) (.int 110), Cond.exactly (Term.string "OneHeavyLoadModel" 210) "java/lang/String", Cond.eq (.field (Term.string "OneHeavyLoadModel" 210) "java/lang/String" "coder" "B") (.int 0), Cond.arrayOf (.field (Term.string "OneHeavyLoadModel" 210) "java/lang/String" "value" "[B") .byte, Cond.eq (.length (.field (Term.string "OneHeavyLoadModel" 210) "java/lang/String" "value" "[B")) (.int (Int32.ofNat 5)), Cond.eq (.elem (.field (Term.string "OneHeavyLoadModel" 210) "java/lang/String" "value" "[B") (.int (Int32.ofNat 0))) (.int 115), Cond.eq (.elem (.field (Term.string "OneHeavyLoadModel" 210) "java/lang/String" "value" "[B") (.int (Int32.ofNat 1))) (.int 112), Cond.eq (.elem (.field (Term.string "OneHeavyLoadModel" 210) "java/lang/String" "value" "[B") (.int (Int32.ofNat 2))) (.int 97), Cond.eq (.elem (.field (Term.string "OneHeavyLoadModel" 210) "java/lang/String" "value" "[B") (.int (Int32.ofNat 3))) (.int 99), Cond.eq (.elem (.field (Term.string "OneHeavyLoadModel" 210) "java/lang/String" "value" "[B") (.int (Int32.ofNat 4))) (.int 101), Cond.exactly (Term.string "OneHeavyLoadModel" 212) "java/lang/String", Cond.eq (.field (Term.string "OneHeavyLoadModel" 212) "java/lang/String" "coder" "B") (.int 0), Cond.arrayOf (.field (Term.string "OneHeavyLoadModel" 212) "java/lang/String" "value" "[B") .byte, Cond.eq (.length (.field (Term.string "OneHeavyLoadModel" 212) "java/lang/String" "value" "[B")) (.int (Int32.ofNat 4)), Cond.eq (.elem (.field (Term.string "OneHeavyLoadModel" 212) "java/lang/String" "value" "[B") (.int (Int32.ofNat 0))) (.int 116), Cond.eq (.elem (.field (Term.string "OneHeavyLoadModel" 212) "java/lang/String" "value" "[B") (.int (Int32.ofNat 1))) (.int 97), Cond.eq (.elem (.field (Term.string "OneHeavyLoadModel" 212) "java/lang/String" "value" "[B") (.int (Int32.ofNat 2))) (.int 114), Cond.eq (.elem (.field (Term.string "OneHeavyLoadModel" 212) "java/lang/String" "value" "[B") (.int (Int32.ofNat 3))) (.int 101), Cond.exactly (Term.string "OneHeavyLoadModel" 214) "java/lang/String", Cond.eq (.field (Term.string "OneHeavyLoadModel" 214) "java/lang/String" "coder" "B") (.int 0), Cond.arrayOf (.field (Term.string "OneHeavyLoadModel" 214) "java/lang/String" "value" "[B") .byte, Cond.eq (.length (.field (Term.string "OneHeavyLoadModel" 214) "java/lang/String" "value" "[B")) (.int (Int32.ofNat 4)), Cond.eq (.elem (.field (Term.string "OneHeavyLoadModel" 214) "java/lang/String" "value" "[B") (.int (Int32.ofNat 0))) (.int 112), Cond.eq (.elem (.field (Term.string "OneHeavyLoadModel" 214) "java/lang/String" "value" "[B") (.int (Int32.ofNat 1))) (.int 97), Cond.eq (.elem (.field (Term.string "OneHeavyLoadModel" 214) "java/lang/String" "value" "[B") (.int (Int32.ofNat 2))) (.int 114), Cond.eq (.elem (.field (Term.string "OneHeavyLoadModel" 214) "java/lang/String" "value" "[B") (.int (Int32.ofNat 3))) (.int 116), Cond.exactly (Term.string "OneHeavyLoadModel" 215) "java/lang/String", Cond.eq (.field (Term.string "OneHeavyLoadModel" 215) "java/lang/String" "coder" "B") (.int 0), Cond.arrayOf (.field (Term.string "OneHeavyLoadModel" 215) "java/lang/String" "value" "[B") .byte, Cond.eq (.length (.field (Term.string "OneHeavyLoadModel" 215) "java/lang/String" "value" "[B")) (.int (Int32.ofNat 4)), Cond.eq (.elem (.field (Term.string "OneHeavyLoadModel" 215) "java/lang/String" "value" "[B") (.int (Int32.ofNat 0))) (.int 108), Cond.eq (.elem (.field (Term.string "OneHeavyLoadModel" 215) "java/lang/String" "value" "[B") (.int (Int32.ofNat 1))) (.int 111), Cond.eq (.elem (.field (Term.string "OneHeavyLoadModel" 215) "java/lang/String" "value" "[B") (.int (Int32.ofNat 2))) (.int 97), Cond.eq (.elem (.field (Term.string "OneHeavyLoadModel" 215) "java/lang/String" "value" "[B") (.int (Int32.ofNat 3))) (.int 100), Cond.exactly (Term.string "OneHeavyLoadModel" 217) "java/lang/String", Cond.eq (.field (Term.string "OneHeavyLoadModel" 217) "java/lang/String" "coder" "B") (.int 0), Cond.arrayOf (.field (Term.string "OneHeavyLoadModel" 217) "java/lang/String" "value" "[B") .byte, Cond.eq (.length (.field (Term.string "OneHeavyLoadModel" 217) "java/lang/String" "value" "[B")) (.int (Int32.ofNat 4)), Cond.eq (.elem (.field (Term.string "OneHeavyLoadModel" 217) "java/lang/String" "value" "[B") (.int (Int32.ofNat 0))) (.int 109), Cond.eq (.elem (.field (Term.string "OneHeavyLoadModel" 217) "java/lang/String" "value" "[B") (.int (Int32.ofNat 1))) (.int 105), Cond.eq (.elem (.field (Term.string "OneHeavyLoadModel" 217) "java/lang/String" "value" "[B") (.int (Int32.ofNat 2))) (.int 108), Cond.eq (.elem (.field (Term.string "OneHeavyLoadModel" 217) "java/lang/String" "value" "[B") (.int (Int32.ofNat 3))) (.int 101)] : List Cond), x ∈ flatC (Jvm.Cond.and given_1 narrow_1) := ph_inn (gs := [282, 0, 0, 0, 0, 1, 0, 0, 0, 0, 0, 0, 0, 0, 1, 0, 0, 0, 0, 0, 0, 0, 1, 0, 0, 0, 0, 0, 0, 0, 1, 0, 0, 0, 0, 0, 0, 0, 1, 0, 0, 0, 0, 0, 0, 0]) (by decide +kernel)
set_option maxHeartbeats 4000000 in
set_option maxRecDepth 100000 in
theorem lw_st0 {s : State} {b : Nat} (hs : ∀ x ∈ flatC (Jvm.Cond.and given_1 narrow_1), x.before #[Value.ref b] s = true) (hnA : ∀ a : Nat, a < s.heap.size → ¬ (fun q : Nat => s.heap.size ≤ q) a) : ∃ K V : Nat, (va_O "java/lang/String" K (fun q => s.heap.size ≤ q) s s.heap ∧ va_OF "java/lang/String" "coder" "B" (.int 0) K (fun q => s.heap.size ≤ q) s s.heap ∧ va_OF "java/lang/String" "value" "[B" (.ref V) K (fun q => s.heap.size ≤ q) s s.heap ∧ va_T .byte V (oh_len 0) (fun i => .int (oh_byt 0 i)) (fun q => s.heap.size ≤ q) s s.heap) ∧ (Term.string "OneHeavyLoad$Reader" 61).eval #[Value.ref b] s none [] s = some (.ref K) := by
  have a1 : ∀ i : Nat, i < 1 → ([4] : List Nat).getD i 0 < 2 ^ 31 := by
    intro i hi
    obtain rfl : i = 0 := by omega
    decide
  have a2 : ∀ i : Nat, i < 1 → (Cond.eq (.length (.field (.string "OneHeavyLoad$Reader" 61) "java/lang/String" "value" "[B")) (.int (Int32.ofNat (([4] : List Nat).getD i 0)))).before #[Value.ref b] s = true := by
    intro i hi
    obtain rfl : i = 0 := by omega
    exact hs _ (lw_sc0 _ (List.mem_of_getElem? (i := 3) rfl))
  have a3 : ∀ i : Nat, i < 1 → ∀ j : Nat, j < ([4] : List Nat).getD i 0 → (Cond.eq (.elem (.field (.string "OneHeavyLoad$Reader" 61) "java/lang/String" "value" "[B") (.int (Int32.ofNat j))) (.int (([[114, 111, 97, 100]] : List (List Int32)).getD i [] |>.getD j 0))).before #[Value.ref b] s = true := by
    intro i hi j hj
    obtain rfl : i = 0 := by omega
    have hj : j < 4 := hj
    rcases (show j = 0 ∨ j = 1 ∨ j = 2 ∨ j = 3 by omega) with rfl | rfl | rfl | rfl
    · exact hs _ (lw_sc0 _ (List.mem_of_getElem? (i := 4) rfl))
    · exact hs _ (lw_sc0 _ (List.mem_of_getElem? (i := 5) rfl))
    · exact hs _ (lw_sc0 _ (List.mem_of_getElem? (i := 6) rfl))
    · exact hs _ (lw_sc0 _ (List.mem_of_getElem? (i := 7) rfl))
  obtain ⟨K, V, S, u⟩ := vk_Sof (args := #[Value.ref b]) (s := s) (N := 1) (tm := fun _ => (Term.string "OneHeavyLoad$Reader" 61)) (len := [4]) (byt := [[114, 111, 97, 100]]) (A := fun q => s.heap.size ≤ q) a1 (fun i hi => hs _ (lw_sc0 _ (List.mem_of_getElem? (i := 0) rfl))) (fun i hi => hs _ (lw_sc0 _ (List.mem_of_getElem? (i := 1) rfl))) (fun i hi => hs _ (lw_sc0 _ (List.mem_of_getElem? (i := 2) rfl))) a2 a3 (fun i j hi hj hne => absurd (show i = j by omega) hne) hnA
  exact ⟨K 0, V 0, S.1 0 (by decide), u 0 (by decide)⟩
set_option maxHeartbeats 4000000 in
set_option maxRecDepth 100000 in
theorem lw_st1 {s : State} {b : Nat} (hs : ∀ x ∈ flatC (Jvm.Cond.and given_1 narrow_1), x.before #[Value.ref b] s = true) (hnA : ∀ a : Nat, a < s.heap.size → ¬ (fun q : Nat => s.heap.size ≤ q) a) : ∃ K V : Nat, (va_O "java/lang/String" K (fun q => s.heap.size ≤ q) s s.heap ∧ va_OF "java/lang/String" "coder" "B" (.int 0) K (fun q => s.heap.size ≤ q) s s.heap ∧ va_OF "java/lang/String" "value" "[B" (.ref V) K (fun q => s.heap.size ≤ q) s s.heap ∧ va_T .byte V (oh_len 1) (fun i => .int (oh_byt 1 i)) (fun q => s.heap.size ≤ q) s s.heap) ∧ (Term.string "OneHeavyLoad$Reader" 117).eval #[Value.ref b] s none [] s = some (.ref K) := by
  have a1 : ∀ i : Nat, i < 1 → ([5] : List Nat).getD i 0 < 2 ^ 31 := by
    intro i hi
    obtain rfl : i = 0 := by omega
    decide
  have a2 : ∀ i : Nat, i < 1 → (Cond.eq (.length (.field (.string "OneHeavyLoad$Reader" 117) "java/lang/String" "value" "[B")) (.int (Int32.ofNat (([5] : List Nat).getD i 0)))).before #[Value.ref b] s = true := by
    intro i hi
    obtain rfl : i = 0 := by omega
    exact hs _ (lw_sc0 _ (List.mem_of_getElem? (i := 11) rfl))
  have a3 : ∀ i : Nat, i < 1 → ∀ j : Nat, j < ([5] : List Nat).getD i 0 → (Cond.eq (.elem (.field (.string "OneHeavyLoad$Reader" 117) "java/lang/String" "value" "[B") (.int (Int32.ofNat j))) (.int (([[109, 105, 108, 101, 115]] : List (List Int32)).getD i [] |>.getD j 0))).before #[Value.ref b] s = true := by
    intro i hi j hj
    obtain rfl : i = 0 := by omega
    have hj : j < 5 := hj
    rcases (show j = 0 ∨ j = 1 ∨ j = 2 ∨ j = 3 ∨ j = 4 by omega) with rfl | rfl | rfl | rfl | rfl
    · exact hs _ (lw_sc0 _ (List.mem_of_getElem? (i := 12) rfl))
    · exact hs _ (lw_sc0 _ (List.mem_of_getElem? (i := 13) rfl))
    · exact hs _ (lw_sc0 _ (List.mem_of_getElem? (i := 14) rfl))
    · exact hs _ (lw_sc0 _ (List.mem_of_getElem? (i := 15) rfl))
    · exact hs _ (lw_sc0 _ (List.mem_of_getElem? (i := 16) rfl))
  obtain ⟨K, V, S, u⟩ := vk_Sof (args := #[Value.ref b]) (s := s) (N := 1) (tm := fun _ => (Term.string "OneHeavyLoad$Reader" 117)) (len := [5]) (byt := [[109, 105, 108, 101, 115]]) (A := fun q => s.heap.size ≤ q) a1 (fun i hi => hs _ (lw_sc0 _ (List.mem_of_getElem? (i := 8) rfl))) (fun i hi => hs _ (lw_sc0 _ (List.mem_of_getElem? (i := 9) rfl))) (fun i hi => hs _ (lw_sc0 _ (List.mem_of_getElem? (i := 10) rfl))) a2 a3 (fun i j hi hj hne => absurd (show i = j by omega) hne) hnA
  exact ⟨K 0, V 0, S.1 0 (by decide), u 0 (by decide)⟩
set_option maxHeartbeats 4000000 in
set_option maxRecDepth 100000 in
theorem lw_st2 {s : State} {b : Nat} (hs : ∀ x ∈ flatC (Jvm.Cond.and given_1 narrow_1), x.before #[Value.ref b] s = true) (hnA : ∀ a : Nat, a < s.heap.size → ¬ (fun q : Nat => s.heap.size ≤ q) a) : ∃ K V : Nat, (va_O "java/lang/String" K (fun q => s.heap.size ≤ q) s s.heap ∧ va_OF "java/lang/String" "coder" "B" (.int 0) K (fun q => s.heap.size ≤ q) s s.heap ∧ va_OF "java/lang/String" "value" "[B" (.ref V) K (fun q => s.heap.size ≤ q) s s.heap ∧ va_T .byte V (oh_len 2) (fun i => .int (oh_byt 2 i)) (fun q => s.heap.size ≤ q) s s.heap) ∧ (Term.string "OneHeavyLoad$Reader" 123).eval #[Value.ref b] s none [] s = some (.ref K) := by
  have a1 : ∀ i : Nat, i < 1 → ([4] : List Nat).getD i 0 < 2 ^ 31 := by
    intro i hi
    obtain rfl : i = 0 := by omega
    decide
  have a2 : ∀ i : Nat, i < 1 → (Cond.eq (.length (.field (.string "OneHeavyLoad$Reader" 123) "java/lang/String" "value" "[B")) (.int (Int32.ofNat (([4] : List Nat).getD i 0)))).before #[Value.ref b] s = true := by
    intro i hi
    obtain rfl : i = 0 := by omega
    exact hs _ (lw_sc0 _ (List.mem_of_getElem? (i := 20) rfl))
  have a3 : ∀ i : Nat, i < 1 → ∀ j : Nat, j < ([4] : List Nat).getD i 0 → (Cond.eq (.elem (.field (.string "OneHeavyLoad$Reader" 123) "java/lang/String" "value" "[B") (.int (Int32.ofNat j))) (.int (([[114, 105, 115, 101]] : List (List Int32)).getD i [] |>.getD j 0))).before #[Value.ref b] s = true := by
    intro i hi j hj
    obtain rfl : i = 0 := by omega
    have hj : j < 4 := hj
    rcases (show j = 0 ∨ j = 1 ∨ j = 2 ∨ j = 3 by omega) with rfl | rfl | rfl | rfl
    · exact hs _ (lw_sc0 _ (List.mem_of_getElem? (i := 21) rfl))
    · exact hs _ (lw_sc0 _ (List.mem_of_getElem? (i := 22) rfl))
    · exact hs _ (lw_sc0 _ (List.mem_of_getElem? (i := 23) rfl))
    · exact hs _ (lw_sc0 _ (List.mem_of_getElem? (i := 24) rfl))
  obtain ⟨K, V, S, u⟩ := vk_Sof (args := #[Value.ref b]) (s := s) (N := 1) (tm := fun _ => (Term.string "OneHeavyLoad$Reader" 123)) (len := [4]) (byt := [[114, 105, 115, 101]]) (A := fun q => s.heap.size ≤ q) a1 (fun i hi => hs _ (lw_sc0 _ (List.mem_of_getElem? (i := 17) rfl))) (fun i hi => hs _ (lw_sc0 _ (List.mem_of_getElem? (i := 18) rfl))) (fun i hi => hs _ (lw_sc0 _ (List.mem_of_getElem? (i := 19) rfl))) a2 a3 (fun i j hi hj hne => absurd (show i = j by omega) hne) hnA
  exact ⟨K 0, V 0, S.1 0 (by decide), u 0 (by decide)⟩
set_option maxHeartbeats 4000000 in
set_option maxRecDepth 100000 in
theorem lw_st3 {s : State} {b : Nat} (hs : ∀ x ∈ flatC (Jvm.Cond.and given_1 narrow_1), x.before #[Value.ref b] s = true) (hnA : ∀ a : Nat, a < s.heap.size → ¬ (fun q : Nat => s.heap.size ≤ q) a) : ∃ K V : Nat, (va_O "java/lang/String" K (fun q => s.heap.size ≤ q) s s.heap ∧ va_OF "java/lang/String" "coder" "B" (.int 0) K (fun q => s.heap.size ≤ q) s s.heap ∧ va_OF "java/lang/String" "value" "[B" (.ref V) K (fun q => s.heap.size ≤ q) s s.heap ∧ va_T .byte V (oh_len 3) (fun i => .int (oh_byt 3 i)) (fun q => s.heap.size ≤ q) s s.heap) ∧ (Term.string "OneHeavyLoad$Reader" 129).eval #[Value.ref b] s none [] s = some (.ref K) := by
  have a1 : ∀ i : Nat, i < 1 → ([4] : List Nat).getD i 0 < 2 ^ 31 := by
    intro i hi
    obtain rfl : i = 0 := by omega
    decide
  have a2 : ∀ i : Nat, i < 1 → (Cond.eq (.length (.field (.string "OneHeavyLoad$Reader" 129) "java/lang/String" "value" "[B")) (.int (Int32.ofNat (([4] : List Nat).getD i 0)))).before #[Value.ref b] s = true := by
    intro i hi
    obtain rfl : i = 0 := by omega
    exact hs _ (lw_sc0 _ (List.mem_of_getElem? (i := 28) rfl))
  have a3 : ∀ i : Nat, i < 1 → ∀ j : Nat, j < ([4] : List Nat).getD i 0 → (Cond.eq (.elem (.field (.string "OneHeavyLoad$Reader" 129) "java/lang/String" "value" "[B") (.int (Int32.ofNat j))) (.int (([[116, 117, 114, 110]] : List (List Int32)).getD i [] |>.getD j 0))).before #[Value.ref b] s = true := by
    intro i hi j hj
    obtain rfl : i = 0 := by omega
    have hj : j < 4 := hj
    rcases (show j = 0 ∨ j = 1 ∨ j = 2 ∨ j = 3 by omega) with rfl | rfl | rfl | rfl
    · exact hs _ (lw_sc0 _ (List.mem_of_getElem? (i := 29) rfl))
    · exact hs _ (lw_sc0 _ (List.mem_of_getElem? (i := 30) rfl))
    · exact hs _ (lw_sc0 _ (List.mem_of_getElem? (i := 31) rfl))
    · exact hs _ (lw_sc0 _ (List.mem_of_getElem? (i := 32) rfl))
  obtain ⟨K, V, S, u⟩ := vk_Sof (args := #[Value.ref b]) (s := s) (N := 1) (tm := fun _ => (Term.string "OneHeavyLoad$Reader" 129)) (len := [4]) (byt := [[116, 117, 114, 110]]) (A := fun q => s.heap.size ≤ q) a1 (fun i hi => hs _ (lw_sc0 _ (List.mem_of_getElem? (i := 25) rfl))) (fun i hi => hs _ (lw_sc0 _ (List.mem_of_getElem? (i := 26) rfl))) (fun i hi => hs _ (lw_sc0 _ (List.mem_of_getElem? (i := 27) rfl))) a2 a3 (fun i j hi hj hne => absurd (show i = j by omega) hne) hnA
  exact ⟨K 0, V 0, S.1 0 (by decide), u 0 (by decide)⟩
set_option maxHeartbeats 4000000 in
set_option maxRecDepth 100000 in
theorem lw_st4 {s : State} {b : Nat} (hs : ∀ x ∈ flatC (Jvm.Cond.and given_1 narrow_1), x.before #[Value.ref b] s = true) (hnA : ∀ a : Nat, a < s.heap.size → ¬ (fun q : Nat => s.heap.size ≤ q) a) : ∃ K V : Nat, (va_O "java/lang/String" K (fun q => s.heap.size ≤ q) s s.heap ∧ va_OF "java/lang/String" "coder" "B" (.int 0) K (fun q => s.heap.size ≤ q) s s.heap ∧ va_OF "java/lang/String" "value" "[B" (.ref V) K (fun q => s.heap.size ≤ q) s s.heap ∧ va_T .byte V (oh_len 4) (fun i => .int (oh_byt 4 i)) (fun q => s.heap.size ≤ q) s s.heap) ∧ (Term.string "OneHeavyLoad$Reader" 131).eval #[Value.ref b] s none [] s = some (.ref K) := by
  have a1 : ∀ i : Nat, i < 1 → ([6] : List Nat).getD i 0 < 2 ^ 31 := by
    intro i hi
    obtain rfl : i = 0 := by omega
    decide
  have a2 : ∀ i : Nat, i < 1 → (Cond.eq (.length (.field (.string "OneHeavyLoad$Reader" 131) "java/lang/String" "value" "[B")) (.int (Int32.ofNat (([6] : List Nat).getD i 0)))).before #[Value.ref b] s = true := by
    intro i hi
    obtain rfl : i = 0 := by omega
    exact hs _ (lw_sc0 _ (List.mem_of_getElem? (i := 36) rfl))
  have a3 : ∀ i : Nat, i < 1 → ∀ j : Nat, j < ([6] : List Nat).getD i 0 → (Cond.eq (.elem (.field (.string "OneHeavyLoad$Reader" 131) "java/lang/String" "value" "[B") (.int (Int32.ofNat j))) (.int (([[112, 97, 114, 105, 115, 104]] : List (List Int32)).getD i [] |>.getD j 0))).before #[Value.ref b] s = true := by
    intro i hi j hj
    obtain rfl : i = 0 := by omega
    have hj : j < 6 := hj
    rcases (show j = 0 ∨ j = 1 ∨ j = 2 ∨ j = 3 ∨ j = 4 ∨ j = 5 by omega) with rfl | rfl | rfl | rfl | rfl | rfl
    · exact hs _ (lw_sc0 _ (List.mem_of_getElem? (i := 37) rfl))
    · exact hs _ (lw_sc0 _ (List.mem_of_getElem? (i := 38) rfl))
    · exact hs _ (lw_sc0 _ (List.mem_of_getElem? (i := 39) rfl))
    · exact hs _ (lw_sc0 _ (List.mem_of_getElem? (i := 40) rfl))
    · exact hs _ (lw_sc0 _ (List.mem_of_getElem? (i := 41) rfl))
    · exact hs _ (lw_sc0 _ (List.mem_of_getElem? (i := 42) rfl))
  obtain ⟨K, V, S, u⟩ := vk_Sof (args := #[Value.ref b]) (s := s) (N := 1) (tm := fun _ => (Term.string "OneHeavyLoad$Reader" 131)) (len := [6]) (byt := [[112, 97, 114, 105, 115, 104]]) (A := fun q => s.heap.size ≤ q) a1 (fun i hi => hs _ (lw_sc0 _ (List.mem_of_getElem? (i := 33) rfl))) (fun i hi => hs _ (lw_sc0 _ (List.mem_of_getElem? (i := 34) rfl))) (fun i hi => hs _ (lw_sc0 _ (List.mem_of_getElem? (i := 35) rfl))) a2 a3 (fun i j hi hj hne => absurd (show i = j by omega) hne) hnA
  exact ⟨K 0, V 0, S.1 0 (by decide), u 0 (by decide)⟩
set_option maxHeartbeats 4000000 in
set_option maxRecDepth 100000 in
theorem lw_st5 {s : State} {b : Nat} (hs : ∀ x ∈ flatC (Jvm.Cond.and given_1 narrow_1), x.before #[Value.ref b] s = true) (hnA : ∀ a : Nat, a < s.heap.size → ¬ (fun q : Nat => s.heap.size ≤ q) a) : ∃ K V : Nat, (va_O "java/lang/String" K (fun q => s.heap.size ≤ q) s s.heap ∧ va_OF "java/lang/String" "coder" "B" (.int 0) K (fun q => s.heap.size ≤ q) s s.heap ∧ va_OF "java/lang/String" "value" "[B" (.ref V) K (fun q => s.heap.size ≤ q) s s.heap ∧ va_T .byte V (oh_len 5) (fun i => .int (oh_byt 5 i)) (fun q => s.heap.size ≤ q) s s.heap) ∧ (Term.string "OneHeavyLoad$Reader" 70).eval #[Value.ref b] s none [] s = some (.ref K) := by
  have a1 : ∀ i : Nat, i < 1 → ([6] : List Nat).getD i 0 < 2 ^ 31 := by
    intro i hi
    obtain rfl : i = 0 := by omega
    decide
  have a2 : ∀ i : Nat, i < 1 → (Cond.eq (.length (.field (.string "OneHeavyLoad$Reader" 70) "java/lang/String" "value" "[B")) (.int (Int32.ofNat (([6] : List Nat).getD i 0)))).before #[Value.ref b] s = true := by
    intro i hi
    obtain rfl : i = 0 := by omega
    exact hs _ (lw_sc0 _ (List.mem_of_getElem? (i := 46) rfl))
  have a3 : ∀ i : Nat, i < 1 → ∀ j : Nat, j < ([6] : List Nat).getD i 0 → (Cond.eq (.elem (.field (.string "OneHeavyLoad$Reader" 70) "java/lang/String" "value" "[B") (.int (Int32.ofNat j))) (.int (([[98, 114, 105, 100, 103, 101]] : List (List Int32)).getD i [] |>.getD j 0))).before #[Value.ref b] s = true := by
    intro i hi j hj
    obtain rfl : i = 0 := by omega
    have hj : j < 6 := hj
    rcases (show j = 0 ∨ j = 1 ∨ j = 2 ∨ j = 3 ∨ j = 4 ∨ j = 5 by omega) with rfl | rfl | rfl | rfl | rfl | rfl
    · exact hs _ (lw_sc0 _ (List.mem_of_getElem? (i := 47) rfl))
    · exact hs _ (lw_sc0 _ (List.mem_of_getElem? (i := 48) rfl))
    · exact hs _ (lw_sc0 _ (List.mem_of_getElem? (i := 49) rfl))
    · exact hs _ (lw_sc0 _ (List.mem_of_getElem? (i := 50) rfl))
    · exact hs _ (lw_sc0 _ (List.mem_of_getElem? (i := 51) rfl))
    · exact hs _ (lw_sc0 _ (List.mem_of_getElem? (i := 52) rfl))
  obtain ⟨K, V, S, u⟩ := vk_Sof (args := #[Value.ref b]) (s := s) (N := 1) (tm := fun _ => (Term.string "OneHeavyLoad$Reader" 70)) (len := [6]) (byt := [[98, 114, 105, 100, 103, 101]]) (A := fun q => s.heap.size ≤ q) a1 (fun i hi => hs _ (lw_sc0 _ (List.mem_of_getElem? (i := 43) rfl))) (fun i hi => hs _ (lw_sc0 _ (List.mem_of_getElem? (i := 44) rfl))) (fun i hi => hs _ (lw_sc0 _ (List.mem_of_getElem? (i := 45) rfl))) a2 a3 (fun i j hi hj hne => absurd (show i = j by omega) hne) hnA
  exact ⟨K 0, V 0, S.1 0 (by decide), u 0 (by decide)⟩
set_option maxHeartbeats 4000000 in
set_option maxRecDepth 100000 in
theorem lw_st6 {s : State} {b : Nat} (hs : ∀ x ∈ flatC (Jvm.Cond.and given_1 narrow_1), x.before #[Value.ref b] s = true) (hnA : ∀ a : Nat, a < s.heap.size → ¬ (fun q : Nat => s.heap.size ≤ q) a) : ∃ K V : Nat, (va_O "java/lang/String" K (fun q => s.heap.size ≤ q) s s.heap ∧ va_OF "java/lang/String" "coder" "B" (.int 0) K (fun q => s.heap.size ≤ q) s s.heap ∧ va_OF "java/lang/String" "value" "[B" (.ref V) K (fun q => s.heap.size ≤ q) s s.heap ∧ va_T .byte V (oh_len 6) (fun i => .int (oh_byt 6 i)) (fun q => s.heap.size ≤ q) s s.heap) ∧ (Term.string "OneHeavyLoad$Reader" 137).eval #[Value.ref b] s none [] s = some (.ref K) := by
  have a1 : ∀ i : Nat, i < 1 → ([4] : List Nat).getD i 0 < 2 ^ 31 := by
    intro i hi
    obtain rfl : i = 0 := by omega
    decide
  have a2 : ∀ i : Nat, i < 1 → (Cond.eq (.length (.field (.string "OneHeavyLoad$Reader" 137) "java/lang/String" "value" "[B")) (.int (Int32.ofNat (([4] : List Nat).getD i 0)))).before #[Value.ref b] s = true := by
    intro i hi
    obtain rfl : i = 0 := by omega
    exact hs _ (lw_sc0 _ (List.mem_of_getElem? (i := 56) rfl))
  have a3 : ∀ i : Nat, i < 1 → ∀ j : Nat, j < ([4] : List Nat).getD i 0 → (Cond.eq (.elem (.field (.string "OneHeavyLoad$Reader" 137) "java/lang/String" "value" "[B") (.int (Int32.ofNat j))) (.int (([[107, 105, 110, 100]] : List (List Int32)).getD i [] |>.getD j 0))).before #[Value.ref b] s = true := by
    intro i hi j hj
    obtain rfl : i = 0 := by omega
    have hj : j < 4 := hj
    rcases (show j = 0 ∨ j = 1 ∨ j = 2 ∨ j = 3 by omega) with rfl | rfl | rfl | rfl
    · exact hs _ (lw_sc0 _ (List.mem_of_getElem? (i := 57) rfl))
    · exact hs _ (lw_sc0 _ (List.mem_of_getElem? (i := 58) rfl))
    · exact hs _ (lw_sc0 _ (List.mem_of_getElem? (i := 59) rfl))
    · exact hs _ (lw_sc1 _ (List.mem_of_getElem? (i := 0) rfl))
  obtain ⟨K, V, S, u⟩ := vk_Sof (args := #[Value.ref b]) (s := s) (N := 1) (tm := fun _ => (Term.string "OneHeavyLoad$Reader" 137)) (len := [4]) (byt := [[107, 105, 110, 100]]) (A := fun q => s.heap.size ≤ q) a1 (fun i hi => hs _ (lw_sc0 _ (List.mem_of_getElem? (i := 53) rfl))) (fun i hi => hs _ (lw_sc0 _ (List.mem_of_getElem? (i := 54) rfl))) (fun i hi => hs _ (lw_sc0 _ (List.mem_of_getElem? (i := 55) rfl))) a2 a3 (fun i j hi hj hne => absurd (show i = j by omega) hne) hnA
  exact ⟨K 0, V 0, S.1 0 (by decide), u 0 (by decide)⟩
set_option maxHeartbeats 4000000 in
set_option maxRecDepth 100000 in
theorem lw_st7 {s : State} {b : Nat} (hs : ∀ x ∈ flatC (Jvm.Cond.and given_1 narrow_1), x.before #[Value.ref b] s = true) (hnA : ∀ a : Nat, a < s.heap.size → ¬ (fun q : Nat => s.heap.size ≤ q) a) : ∃ K V : Nat, (va_O "java/lang/String" K (fun q => s.heap.size ≤ q) s s.heap ∧ va_OF "java/lang/String" "coder" "B" (.int 0) K (fun q => s.heap.size ≤ q) s s.heap ∧ va_OF "java/lang/String" "value" "[B" (.ref V) K (fun q => s.heap.size ≤ q) s s.heap ∧ va_T .byte V (oh_len 7) (fun i => .int (oh_byt 7 i)) (fun q => s.heap.size ≤ q) s s.heap) ∧ (Term.string "OneHeavyLoad$Reader" 139).eval #[Value.ref b] s none [] s = some (.ref K) := by
  have a1 : ∀ i : Nat, i < 1 → ([4] : List Nat).getD i 0 < 2 ^ 31 := by
    intro i hi
    obtain rfl : i = 0 := by omega
    decide
  have a2 : ∀ i : Nat, i < 1 → (Cond.eq (.length (.field (.string "OneHeavyLoad$Reader" 139) "java/lang/String" "value" "[B")) (.int (Int32.ofNat (([4] : List Nat).getD i 0)))).before #[Value.ref b] s = true := by
    intro i hi
    obtain rfl : i = 0 := by omega
    exact hs _ (lw_sc1 _ (List.mem_of_getElem? (i := 4) rfl))
  have a3 : ∀ i : Nat, i < 1 → ∀ j : Nat, j < ([4] : List Nat).getD i 0 → (Cond.eq (.elem (.field (.string "OneHeavyLoad$Reader" 139) "java/lang/String" "value" "[B") (.int (Int32.ofNat j))) (.int (([[115, 112, 97, 110]] : List (List Int32)).getD i [] |>.getD j 0))).before #[Value.ref b] s = true := by
    intro i hi j hj
    obtain rfl : i = 0 := by omega
    have hj : j < 4 := hj
    rcases (show j = 0 ∨ j = 1 ∨ j = 2 ∨ j = 3 by omega) with rfl | rfl | rfl | rfl
    · exact hs _ (lw_sc1 _ (List.mem_of_getElem? (i := 5) rfl))
    · exact hs _ (lw_sc1 _ (List.mem_of_getElem? (i := 6) rfl))
    · exact hs _ (lw_sc1 _ (List.mem_of_getElem? (i := 7) rfl))
    · exact hs _ (lw_sc1 _ (List.mem_of_getElem? (i := 8) rfl))
  obtain ⟨K, V, S, u⟩ := vk_Sof (args := #[Value.ref b]) (s := s) (N := 1) (tm := fun _ => (Term.string "OneHeavyLoad$Reader" 139)) (len := [4]) (byt := [[115, 112, 97, 110]]) (A := fun q => s.heap.size ≤ q) a1 (fun i hi => hs _ (lw_sc1 _ (List.mem_of_getElem? (i := 1) rfl))) (fun i hi => hs _ (lw_sc1 _ (List.mem_of_getElem? (i := 2) rfl))) (fun i hi => hs _ (lw_sc1 _ (List.mem_of_getElem? (i := 3) rfl))) a2 a3 (fun i j hi hj hne => absurd (show i = j by omega) hne) hnA
  exact ⟨K 0, V 0, S.1 0 (by decide), u 0 (by decide)⟩
set_option maxHeartbeats 4000000 in
set_option maxRecDepth 100000 in
theorem lw_st8 {s : State} {b : Nat} (hs : ∀ x ∈ flatC (Jvm.Cond.and given_1 narrow_1), x.before #[Value.ref b] s = true) (hnA : ∀ a : Nat, a < s.heap.size → ¬ (fun q : Nat => s.heap.size ≤ q) a) : ∃ K V : Nat, (va_O "java/lang/String" K (fun q => s.heap.size ≤ q) s s.heap ∧ va_OF "java/lang/String" "coder" "B" (.int 0) K (fun q => s.heap.size ≤ q) s s.heap ∧ va_OF "java/lang/String" "value" "[B" (.ref V) K (fun q => s.heap.size ≤ q) s s.heap ∧ va_T .byte V (oh_len 8) (fun i => .int (oh_byt 8 i)) (fun q => s.heap.size ≤ q) s s.heap) ∧ (Term.string "OneHeavyLoad$Reader" 141).eval #[Value.ref b] s none [] s = some (.ref K) := by
  have a1 : ∀ i : Nat, i < 1 → ([4] : List Nat).getD i 0 < 2 ^ 31 := by
    intro i hi
    obtain rfl : i = 0 := by omega
    decide
  have a2 : ∀ i : Nat, i < 1 → (Cond.eq (.length (.field (.string "OneHeavyLoad$Reader" 141) "java/lang/String" "value" "[B")) (.int (Int32.ofNat (([4] : List Nat).getD i 0)))).before #[Value.ref b] s = true := by
    intro i hi
    obtain rfl : i = 0 := by omega
    exact hs _ (lw_sc1 _ (List.mem_of_getElem? (i := 12) rfl))
  have a3 : ∀ i : Nat, i < 1 → ∀ j : Nat, j < ([4] : List Nat).getD i 0 → (Cond.eq (.elem (.field (.string "OneHeavyLoad$Reader" 141) "java/lang/String" "value" "[B") (.int (Int32.ofNat j))) (.int (([[97, 120, 108, 101]] : List (List Int32)).getD i [] |>.getD j 0))).before #[Value.ref b] s = true := by
    intro i hi j hj
    obtain rfl : i = 0 := by omega
    have hj : j < 4 := hj
    rcases (show j = 0 ∨ j = 1 ∨ j = 2 ∨ j = 3 by omega) with rfl | rfl | rfl | rfl
    · exact hs _ (lw_sc1 _ (List.mem_of_getElem? (i := 13) rfl))
    · exact hs _ (lw_sc1 _ (List.mem_of_getElem? (i := 14) rfl))
    · exact hs _ (lw_sc1 _ (List.mem_of_getElem? (i := 15) rfl))
    · exact hs _ (lw_sc1 _ (List.mem_of_getElem? (i := 16) rfl))
  obtain ⟨K, V, S, u⟩ := vk_Sof (args := #[Value.ref b]) (s := s) (N := 1) (tm := fun _ => (Term.string "OneHeavyLoad$Reader" 141)) (len := [4]) (byt := [[97, 120, 108, 101]]) (A := fun q => s.heap.size ≤ q) a1 (fun i hi => hs _ (lw_sc1 _ (List.mem_of_getElem? (i := 9) rfl))) (fun i hi => hs _ (lw_sc1 _ (List.mem_of_getElem? (i := 10) rfl))) (fun i hi => hs _ (lw_sc1 _ (List.mem_of_getElem? (i := 11) rfl))) a2 a3 (fun i j hi hj hne => absurd (show i = j by omega) hne) hnA
  exact ⟨K 0, V 0, S.1 0 (by decide), u 0 (by decide)⟩
set_option maxHeartbeats 4000000 in
set_option maxRecDepth 100000 in
theorem lw_st9 {s : State} {b : Nat} (hs : ∀ x ∈ flatC (Jvm.Cond.and given_1 narrow_1), x.before #[Value.ref b] s = true) (hnA : ∀ a : Nat, a < s.heap.size → ¬ (fun q : Nat => s.heap.size ≤ q) a) : ∃ K V : Nat, (va_O "java/lang/String" K (fun q => s.heap.size ≤ q) s s.heap ∧ va_OF "java/lang/String" "coder" "B" (.int 0) K (fun q => s.heap.size ≤ q) s s.heap ∧ va_OF "java/lang/String" "value" "[B" (.ref V) K (fun q => s.heap.size ≤ q) s s.heap ∧ va_T .byte V (oh_len 9) (fun i => .int (oh_byt 9 i)) (fun q => s.heap.size ≤ q) s s.heap) ∧ (Term.string "OneHeavyLoad$Reader" 143).eval #[Value.ref b] s none [] s = some (.ref K) := by
  have a1 : ∀ i : Nat, i < 1 → ([3] : List Nat).getD i 0 < 2 ^ 31 := by
    intro i hi
    obtain rfl : i = 0 := by omega
    decide
  have a2 : ∀ i : Nat, i < 1 → (Cond.eq (.length (.field (.string "OneHeavyLoad$Reader" 143) "java/lang/String" "value" "[B")) (.int (Int32.ofNat (([3] : List Nat).getD i 0)))).before #[Value.ref b] s = true := by
    intro i hi
    obtain rfl : i = 0 := by omega
    exact hs _ (lw_sc1 _ (List.mem_of_getElem? (i := 20) rfl))
  have a3 : ∀ i : Nat, i < 1 → ∀ j : Nat, j < ([3] : List Nat).getD i 0 → (Cond.eq (.elem (.field (.string "OneHeavyLoad$Reader" 143) "java/lang/String" "value" "[B") (.int (Int32.ofNat j))) (.int (([[97, 108, 108]] : List (List Int32)).getD i [] |>.getD j 0))).before #[Value.ref b] s = true := by
    intro i hi j hj
    obtain rfl : i = 0 := by omega
    have hj : j < 3 := hj
    rcases (show j = 0 ∨ j = 1 ∨ j = 2 by omega) with rfl | rfl | rfl
    · exact hs _ (lw_sc1 _ (List.mem_of_getElem? (i := 21) rfl))
    · exact hs _ (lw_sc1 _ (List.mem_of_getElem? (i := 22) rfl))
    · exact hs _ (lw_sc1 _ (List.mem_of_getElem? (i := 23) rfl))
  obtain ⟨K, V, S, u⟩ := vk_Sof (args := #[Value.ref b]) (s := s) (N := 1) (tm := fun _ => (Term.string "OneHeavyLoad$Reader" 143)) (len := [3]) (byt := [[97, 108, 108]]) (A := fun q => s.heap.size ≤ q) a1 (fun i hi => hs _ (lw_sc1 _ (List.mem_of_getElem? (i := 17) rfl))) (fun i hi => hs _ (lw_sc1 _ (List.mem_of_getElem? (i := 18) rfl))) (fun i hi => hs _ (lw_sc1 _ (List.mem_of_getElem? (i := 19) rfl))) a2 a3 (fun i j hi hj hne => absurd (show i = j by omega) hne) hnA
  exact ⟨K 0, V 0, S.1 0 (by decide), u 0 (by decide)⟩
set_option maxHeartbeats 4000000 in
set_option maxRecDepth 100000 in
theorem lw_st10 {s : State} {b : Nat} (hs : ∀ x ∈ flatC (Jvm.Cond.and given_1 narrow_1), x.before #[Value.ref b] s = true) (hnA : ∀ a : Nat, a < s.heap.size → ¬ (fun q : Nat => s.heap.size ≤ q) a) : ∃ K V : Nat, (va_O "java/lang/String" K (fun q => s.heap.size ≤ q) s s.heap ∧ va_OF "java/lang/String" "coder" "B" (.int 0) K (fun q => s.heap.size ≤ q) s s.heap ∧ va_OF "java/lang/String" "value" "[B" (.ref V) K (fun q => s.heap.size ≤ q) s s.heap ∧ va_T .byte V (oh_len 10) (fun i => .int (oh_byt 10 i)) (fun q => s.heap.size ≤ q) s s.heap) ∧ (Term.string "OneHeavyLoad$Reader" 145).eval #[Value.ref b] s none [] s = some (.ref K) := by
  have a1 : ∀ i : Nat, i < 1 → ([4] : List Nat).getD i 0 < 2 ^ 31 := by
    intro i hi
    obtain rfl : i = 0 := by omega
    decide
  have a2 : ∀ i : Nat, i < 1 → (Cond.eq (.length (.field (.string "OneHeavyLoad$Reader" 145) "java/lang/String" "value" "[B")) (.int (Int32.ofNat (([4] : List Nat).getD i 0)))).before #[Value.ref b] s = true := by
    intro i hi
    obtain rfl : i = 0 := by omega
    exact hs _ (lw_sc1 _ (List.mem_of_getElem? (i := 27) rfl))
  have a3 : ∀ i : Nat, i < 1 → ∀ j : Nat, j < ([4] : List Nat).getD i 0 → (Cond.eq (.elem (.field (.string "OneHeavyLoad$Reader" 145) "java/lang/String" "value" "[B") (.int (Int32.ofNat j))) (.int (([[112, 114, 111, 112]] : List (List Int32)).getD i [] |>.getD j 0))).before #[Value.ref b] s = true := by
    intro i hi j hj
    obtain rfl : i = 0 := by omega
    have hj : j < 4 := hj
    rcases (show j = 0 ∨ j = 1 ∨ j = 2 ∨ j = 3 by omega) with rfl | rfl | rfl | rfl
    · exact hs _ (lw_sc1 _ (List.mem_of_getElem? (i := 28) rfl))
    · exact hs _ (lw_sc1 _ (List.mem_of_getElem? (i := 29) rfl))
    · exact hs _ (lw_sc1 _ (List.mem_of_getElem? (i := 30) rfl))
    · exact hs _ (lw_sc1 _ (List.mem_of_getElem? (i := 31) rfl))
  obtain ⟨K, V, S, u⟩ := vk_Sof (args := #[Value.ref b]) (s := s) (N := 1) (tm := fun _ => (Term.string "OneHeavyLoad$Reader" 145)) (len := [4]) (byt := [[112, 114, 111, 112]]) (A := fun q => s.heap.size ≤ q) a1 (fun i hi => hs _ (lw_sc1 _ (List.mem_of_getElem? (i := 24) rfl))) (fun i hi => hs _ (lw_sc1 _ (List.mem_of_getElem? (i := 25) rfl))) (fun i hi => hs _ (lw_sc1 _ (List.mem_of_getElem? (i := 26) rfl))) a2 a3 (fun i j hi hj hne => absurd (show i = j by omega) hne) hnA
  exact ⟨K 0, V 0, S.1 0 (by decide), u 0 (by decide)⟩
set_option maxHeartbeats 4000000 in
set_option maxRecDepth 100000 in
theorem lw_st11 {s : State} {b : Nat} (hs : ∀ x ∈ flatC (Jvm.Cond.and given_1 narrow_1), x.before #[Value.ref b] s = true) (hnA : ∀ a : Nat, a < s.heap.size → ¬ (fun q : Nat => s.heap.size ≤ q) a) : ∃ K V : Nat, (va_O "java/lang/String" K (fun q => s.heap.size ≤ q) s s.heap ∧ va_OF "java/lang/String" "coder" "B" (.int 0) K (fun q => s.heap.size ≤ q) s s.heap ∧ va_OF "java/lang/String" "value" "[B" (.ref V) K (fun q => s.heap.size ≤ q) s s.heap ∧ va_T .byte V (oh_len 11) (fun i => .int (oh_byt 11 i)) (fun q => s.heap.size ≤ q) s s.heap) ∧ (Term.string "OneHeavyLoad$Reader" 75).eval #[Value.ref b] s none [] s = some (.ref K) := by
  have a1 : ∀ i : Nat, i < 1 → ([6] : List Nat).getD i 0 < 2 ^ 31 := by
    intro i hi
    obtain rfl : i = 0 := by omega
    decide
  have a2 : ∀ i : Nat, i < 1 → (Cond.eq (.length (.field (.string "OneHeavyLoad$Reader" 75) "java/lang/String" "value" "[B")) (.int (Int32.ofNat (([6] : List Nat).getD i 0)))).before #[Value.ref b] s = true := by
    intro i hi
    obtain rfl : i = 0 := by omega
    exact hs _ (lw_sc1 _ (List.mem_of_getElem? (i := 35) rfl))
  have a3 : ∀ i : Nat, i < 1 → ∀ j : Nat, j < ([6] : List Nat).getD i 0 → (Cond.eq (.elem (.field (.string "OneHeavyLoad$Reader" 75) "java/lang/String" "value" "[B") (.int (Int32.ofNat j))) (.int (([[119, 97, 103, 103, 111, 110]] : List (List Int32)).getD i [] |>.getD j 0))).before #[Value.ref b] s = true := by
    intro i hi j hj
    obtain rfl : i = 0 := by omega
    have hj : j < 6 := hj
    rcases (show j = 0 ∨ j = 1 ∨ j = 2 ∨ j = 3 ∨ j = 4 ∨ j = 5 by omega) with rfl | rfl | rfl | rfl | rfl | rfl
    · exact hs _ (lw_sc1 _ (List.mem_of_getElem? (i := 36) rfl))
    · exact hs _ (lw_sc1 _ (List.mem_of_getElem? (i := 37) rfl))
    · exact hs _ (lw_sc1 _ (List.mem_of_getElem? (i := 38) rfl))
    · exact hs _ (lw_sc1 _ (List.mem_of_getElem? (i := 39) rfl))
    · exact hs _ (lw_sc1 _ (List.mem_of_getElem? (i := 40) rfl))
    · exact hs _ (lw_sc1 _ (List.mem_of_getElem? (i := 41) rfl))
  obtain ⟨K, V, S, u⟩ := vk_Sof (args := #[Value.ref b]) (s := s) (N := 1) (tm := fun _ => (Term.string "OneHeavyLoad$Reader" 75)) (len := [6]) (byt := [[119, 97, 103, 103, 111, 110]]) (A := fun q => s.heap.size ≤ q) a1 (fun i hi => hs _ (lw_sc1 _ (List.mem_of_getElem? (i := 32) rfl))) (fun i hi => hs _ (lw_sc1 _ (List.mem_of_getElem? (i := 33) rfl))) (fun i hi => hs _ (lw_sc1 _ (List.mem_of_getElem? (i := 34) rfl))) a2 a3 (fun i j hi hj hne => absurd (show i = j by omega) hne) hnA
  exact ⟨K 0, V 0, S.1 0 (by decide), u 0 (by decide)⟩
set_option maxHeartbeats 4000000 in
set_option maxRecDepth 100000 in
theorem lw_st12 {s : State} {b : Nat} (hs : ∀ x ∈ flatC (Jvm.Cond.and given_1 narrow_1), x.before #[Value.ref b] s = true) (hnA : ∀ a : Nat, a < s.heap.size → ¬ (fun q : Nat => s.heap.size ≤ q) a) : ∃ K V : Nat, (va_O "java/lang/String" K (fun q => s.heap.size ≤ q) s s.heap ∧ va_OF "java/lang/String" "coder" "B" (.int 0) K (fun q => s.heap.size ≤ q) s s.heap ∧ va_OF "java/lang/String" "value" "[B" (.ref V) K (fun q => s.heap.size ≤ q) s s.heap ∧ va_T .byte V (oh_len 12) (fun i => .int (oh_byt 12 i)) (fun q => s.heap.size ≤ q) s s.heap) ∧ (Term.string "OneHeavyLoad$Reader" 155).eval #[Value.ref b] s none [] s = some (.ref K) := by
  have a1 : ∀ i : Nat, i < 1 → ([5] : List Nat).getD i 0 < 2 ^ 31 := by
    intro i hi
    obtain rfl : i = 0 := by omega
    decide
  have a2 : ∀ i : Nat, i < 1 → (Cond.eq (.length (.field (.string "OneHeavyLoad$Reader" 155) "java/lang/String" "value" "[B")) (.int (Int32.ofNat (([5] : List Nat).getD i 0)))).before #[Value.ref b] s = true := by
    intro i hi
    obtain rfl : i = 0 := by omega
    exact hs _ (lw_sc1 _ (List.mem_of_getElem? (i := 45) rfl))
  have a3 : ∀ i : Nat, i < 1 → ∀ j : Nat, j < ([5] : List Nat).getD i 0 → (Cond.eq (.elem (.field (.string "OneHeavyLoad$Reader" 155) "java/lang/String" "value" "[B") (.int (Int32.ofNat j))) (.int (([[115, 112, 97, 99, 101]] : List (List Int32)).getD i [] |>.getD j 0))).before #[Value.ref b] s = true := by
    intro i hi j hj
    obtain rfl : i = 0 := by omega
    have hj : j < 5 := hj
    rcases (show j = 0 ∨ j = 1 ∨ j = 2 ∨ j = 3 ∨ j = 4 by omega) with rfl | rfl | rfl | rfl | rfl
    · exact hs _ (lw_sc1 _ (List.mem_of_getElem? (i := 46) rfl))
    · exact hs _ (lw_sc1 _ (List.mem_of_getElem? (i := 47) rfl))
    · exact hs _ (lw_sc1 _ (List.mem_of_getElem? (i := 48) rfl))
    · exact hs _ (lw_sc1 _ (List.mem_of_getElem? (i := 49) rfl))
    · exact hs _ (lw_sc1 _ (List.mem_of_getElem? (i := 50) rfl))
  obtain ⟨K, V, S, u⟩ := vk_Sof (args := #[Value.ref b]) (s := s) (N := 1) (tm := fun _ => (Term.string "OneHeavyLoad$Reader" 155)) (len := [5]) (byt := [[115, 112, 97, 99, 101]]) (A := fun q => s.heap.size ≤ q) a1 (fun i hi => hs _ (lw_sc1 _ (List.mem_of_getElem? (i := 42) rfl))) (fun i hi => hs _ (lw_sc1 _ (List.mem_of_getElem? (i := 43) rfl))) (fun i hi => hs _ (lw_sc1 _ (List.mem_of_getElem? (i := 44) rfl))) a2 a3 (fun i j hi hj hne => absurd (show i = j by omega) hne) hnA
  exact ⟨K 0, V 0, S.1 0 (by decide), u 0 (by decide)⟩
set_option maxHeartbeats 4000000 in
set_option maxRecDepth 100000 in
theorem lw_st13 {s : State} {b : Nat} (hs : ∀ x ∈ flatC (Jvm.Cond.and given_1 narrow_1), x.before #[Value.ref b] s = true) (hnA : ∀ a : Nat, a < s.heap.size → ¬ (fun q : Nat => s.heap.size ≤ q) a) : ∃ K V : Nat, (va_O "java/lang/String" K (fun q => s.heap.size ≤ q) s s.heap ∧ va_OF "java/lang/String" "coder" "B" (.int 0) K (fun q => s.heap.size ≤ q) s s.heap ∧ va_OF "java/lang/String" "value" "[B" (.ref V) K (fun q => s.heap.size ≤ q) s s.heap ∧ va_T .byte V (oh_len 13) (fun i => .int (oh_byt 13 i)) (fun q => s.heap.size ≤ q) s s.heap) ∧ (Term.string "OneHeavyLoad$Reader" 157).eval #[Value.ref b] s none [] s = some (.ref K) := by
  have a1 : ∀ i : Nat, i < 1 → ([4] : List Nat).getD i 0 < 2 ^ 31 := by
    intro i hi
    obtain rfl : i = 0 := by omega
    decide
  have a2 : ∀ i : Nat, i < 1 → (Cond.eq (.length (.field (.string "OneHeavyLoad$Reader" 157) "java/lang/String" "value" "[B")) (.int (Int32.ofNat (([4] : List Nat).getD i 0)))).before #[Value.ref b] s = true := by
    intro i hi
    obtain rfl : i = 0 := by omega
    exact hs _ (lw_sc1 _ (List.mem_of_getElem? (i := 54) rfl))
  have a3 : ∀ i : Nat, i < 1 → ∀ j : Nat, j < ([4] : List Nat).getD i 0 → (Cond.eq (.elem (.field (.string "OneHeavyLoad$Reader" 157) "java/lang/String" "value" "[B") (.int (Int32.ofNat j))) (.int (([[116, 97, 114, 101]] : List (List Int32)).getD i [] |>.getD j 0))).before #[Value.ref b] s = true := by
    intro i hi j hj
    obtain rfl : i = 0 := by omega
    have hj : j < 4 := hj
    rcases (show j = 0 ∨ j = 1 ∨ j = 2 ∨ j = 3 by omega) with rfl | rfl | rfl | rfl
    · exact hs _ (lw_sc1 _ (List.mem_of_getElem? (i := 55) rfl))
    · exact hs _ (lw_sc1 _ (List.mem_of_getElem? (i := 56) rfl))
    · exact hs _ (lw_sc1 _ (List.mem_of_getElem? (i := 57) rfl))
    · exact hs _ (lw_sc1 _ (List.mem_of_getElem? (i := 58) rfl))
  obtain ⟨K, V, S, u⟩ := vk_Sof (args := #[Value.ref b]) (s := s) (N := 1) (tm := fun _ => (Term.string "OneHeavyLoad$Reader" 157)) (len := [4]) (byt := [[116, 97, 114, 101]]) (A := fun q => s.heap.size ≤ q) a1 (fun i hi => hs _ (lw_sc1 _ (List.mem_of_getElem? (i := 51) rfl))) (fun i hi => hs _ (lw_sc1 _ (List.mem_of_getElem? (i := 52) rfl))) (fun i hi => hs _ (lw_sc1 _ (List.mem_of_getElem? (i := 53) rfl))) a2 a3 (fun i j hi hj hne => absurd (show i = j by omega) hne) hnA
  exact ⟨K 0, V 0, S.1 0 (by decide), u 0 (by decide)⟩
set_option maxHeartbeats 4000000 in
set_option maxRecDepth 100000 in
theorem lw_st14 {s : State} {b : Nat} (hs : ∀ x ∈ flatC (Jvm.Cond.and given_1 narrow_1), x.before #[Value.ref b] s = true) (hnA : ∀ a : Nat, a < s.heap.size → ¬ (fun q : Nat => s.heap.size ≤ q) a) : ∃ K V : Nat, (va_O "java/lang/String" K (fun q => s.heap.size ≤ q) s s.heap ∧ va_OF "java/lang/String" "coder" "B" (.int 0) K (fun q => s.heap.size ≤ q) s s.heap ∧ va_OF "java/lang/String" "value" "[B" (.ref V) K (fun q => s.heap.size ≤ q) s s.heap ∧ va_T .byte V (oh_len 14) (fun i => .int (oh_byt 14 i)) (fun q => s.heap.size ≤ q) s s.heap) ∧ (Term.string "OneHeavyLoad$Reader" 80).eval #[Value.ref b] s none [] s = some (.ref K) := by
  have a1 : ∀ i : Nat, i < 1 → ([4] : List Nat).getD i 0 < 2 ^ 31 := by
    intro i hi
    obtain rfl : i = 0 := by omega
    decide
  have a2 : ∀ i : Nat, i < 1 → (Cond.eq (.length (.field (.string "OneHeavyLoad$Reader" 80) "java/lang/String" "value" "[B")) (.int (Int32.ofNat (([4] : List Nat).getD i 0)))).before #[Value.ref b] s = true := by
    intro i hi
    obtain rfl : i = 0 := by omega
    exact hs _ (lw_sc2 _ (List.mem_of_getElem? (i := 2) rfl))
  have a3 : ∀ i : Nat, i < 1 → ∀ j : Nat, j < ([4] : List Nat).getD i 0 → (Cond.eq (.elem (.field (.string "OneHeavyLoad$Reader" 80) "java/lang/String" "value" "[B") (.int (Int32.ofNat j))) (.int (([[112, 97, 114, 116]] : List (List Int32)).getD i [] |>.getD j 0))).before #[Value.ref b] s = true := by
    intro i hi j hj
    obtain rfl : i = 0 := by omega
    have hj : j < 4 := hj
    rcases (show j = 0 ∨ j = 1 ∨ j = 2 ∨ j = 3 by omega) with rfl | rfl | rfl | rfl
    · exact hs _ (lw_sc2 _ (List.mem_of_getElem? (i := 3) rfl))
    · exact hs _ (lw_sc2 _ (List.mem_of_getElem? (i := 4) rfl))
    · exact hs _ (lw_sc2 _ (List.mem_of_getElem? (i := 5) rfl))
    · exact hs _ (lw_sc2 _ (List.mem_of_getElem? (i := 6) rfl))
  obtain ⟨K, V, S, u⟩ := vk_Sof (args := #[Value.ref b]) (s := s) (N := 1) (tm := fun _ => (Term.string "OneHeavyLoad$Reader" 80)) (len := [4]) (byt := [[112, 97, 114, 116]]) (A := fun q => s.heap.size ≤ q) a1 (fun i hi => hs _ (lw_sc1 _ (List.mem_of_getElem? (i := 59) rfl))) (fun i hi => hs _ (lw_sc2 _ (List.mem_of_getElem? (i := 0) rfl))) (fun i hi => hs _ (lw_sc2 _ (List.mem_of_getElem? (i := 1) rfl))) a2 a3 (fun i j hi hj hne => absurd (show i = j by omega) hne) hnA
  exact ⟨K 0, V 0, S.1 0 (by decide), u 0 (by decide)⟩
set_option maxHeartbeats 4000000 in
set_option maxRecDepth 100000 in
theorem lw_st15 {s : State} {b : Nat} (hs : ∀ x ∈ flatC (Jvm.Cond.and given_1 narrow_1), x.before #[Value.ref b] s = true) (hnA : ∀ a : Nat, a < s.heap.size → ¬ (fun q : Nat => s.heap.size ≤ q) a) : ∃ K V : Nat, (va_O "java/lang/String" K (fun q => s.heap.size ≤ q) s s.heap ∧ va_OF "java/lang/String" "coder" "B" (.int 0) K (fun q => s.heap.size ≤ q) s s.heap ∧ va_OF "java/lang/String" "value" "[B" (.ref V) K (fun q => s.heap.size ≤ q) s s.heap ∧ va_T .byte V (oh_len 15) (fun i => .int (oh_byt 15 i)) (fun q => s.heap.size ≤ q) s s.heap) ∧ (Term.string "OneHeavyLoad$Reader" 85).eval #[Value.ref b] s none [] s = some (.ref K) := by
  have a1 : ∀ i : Nat, i < 1 → ([4] : List Nat).getD i 0 < 2 ^ 31 := by
    intro i hi
    obtain rfl : i = 0 := by omega
    decide
  have a2 : ∀ i : Nat, i < 1 → (Cond.eq (.length (.field (.string "OneHeavyLoad$Reader" 85) "java/lang/String" "value" "[B")) (.int (Int32.ofNat (([4] : List Nat).getD i 0)))).before #[Value.ref b] s = true := by
    intro i hi
    obtain rfl : i = 0 := by omega
    exact hs _ (lw_sc2 _ (List.mem_of_getElem? (i := 10) rfl))
  have a3 : ∀ i : Nat, i < 1 → ∀ j : Nat, j < ([4] : List Nat).getD i 0 → (Cond.eq (.elem (.field (.string "OneHeavyLoad$Reader" 85) "java/lang/String" "value" "[B") (.int (Int32.ofNat j))) (.int (([[108, 111, 97, 100]] : List (List Int32)).getD i [] |>.getD j 0))).before #[Value.ref b] s = true := by
    intro i hi j hj
    obtain rfl : i = 0 := by omega
    have hj : j < 4 := hj
    rcases (show j = 0 ∨ j = 1 ∨ j = 2 ∨ j = 3 by omega) with rfl | rfl | rfl | rfl
    · exact hs _ (lw_sc2 _ (List.mem_of_getElem? (i := 11) rfl))
    · exact hs _ (lw_sc2 _ (List.mem_of_getElem? (i := 12) rfl))
    · exact hs _ (lw_sc2 _ (List.mem_of_getElem? (i := 13) rfl))
    · exact hs _ (lw_sc2 _ (List.mem_of_getElem? (i := 14) rfl))
  obtain ⟨K, V, S, u⟩ := vk_Sof (args := #[Value.ref b]) (s := s) (N := 1) (tm := fun _ => (Term.string "OneHeavyLoad$Reader" 85)) (len := [4]) (byt := [[108, 111, 97, 100]]) (A := fun q => s.heap.size ≤ q) a1 (fun i hi => hs _ (lw_sc2 _ (List.mem_of_getElem? (i := 7) rfl))) (fun i hi => hs _ (lw_sc2 _ (List.mem_of_getElem? (i := 8) rfl))) (fun i hi => hs _ (lw_sc2 _ (List.mem_of_getElem? (i := 9) rfl))) a2 a3 (fun i j hi hj hne => absurd (show i = j by omega) hne) hnA
  exact ⟨K 0, V 0, S.1 0 (by decide), u 0 (by decide)⟩
set_option maxHeartbeats 4000000 in
set_option maxRecDepth 100000 in
theorem lw_st16 {s : State} {b : Nat} (hs : ∀ x ∈ flatC (Jvm.Cond.and given_1 narrow_1), x.before #[Value.ref b] s = true) (hnA : ∀ a : Nat, a < s.heap.size → ¬ (fun q : Nat => s.heap.size ≤ q) a) : ∃ K V : Nat, (va_O "java/lang/String" K (fun q => s.heap.size ≤ q) s s.heap ∧ va_OF "java/lang/String" "coder" "B" (.int 0) K (fun q => s.heap.size ≤ q) s s.heap ∧ va_OF "java/lang/String" "value" "[B" (.ref V) K (fun q => s.heap.size ≤ q) s s.heap ∧ va_T .byte V (oh_len 16) (fun i => .int (oh_byt 16 i)) (fun q => s.heap.size ≤ q) s s.heap) ∧ (Term.string "OneHeavyLoad$Reader" 94).eval #[Value.ref b] s none [] s = some (.ref K) := by
  have a1 : ∀ i : Nat, i < 1 → ([4] : List Nat).getD i 0 < 2 ^ 31 := by
    intro i hi
    obtain rfl : i = 0 := by omega
    decide
  have a2 : ∀ i : Nat, i < 1 → (Cond.eq (.length (.field (.string "OneHeavyLoad$Reader" 94) "java/lang/String" "value" "[B")) (.int (Int32.ofNat (([4] : List Nat).getD i 0)))).before #[Value.ref b] s = true := by
    intro i hi
    obtain rfl : i = 0 := by omega
    exact hs _ (lw_sc2 _ (List.mem_of_getElem? (i := 18) rfl))
  have a3 : ∀ i : Nat, i < 1 → ∀ j : Nat, j < ([4] : List Nat).getD i 0 → (Cond.eq (.elem (.field (.string "OneHeavyLoad$Reader" 94) "java/lang/String" "value" "[B") (.int (Int32.ofNat j))) (.int (([[109, 105, 108, 101]] : List (List Int32)).getD i [] |>.getD j 0))).before #[Value.ref b] s = true := by
    intro i hi j hj
    obtain rfl : i = 0 := by omega
    have hj : j < 4 := hj
    rcases (show j = 0 ∨ j = 1 ∨ j = 2 ∨ j = 3 by omega) with rfl | rfl | rfl | rfl
    · exact hs _ (lw_sc2 _ (List.mem_of_getElem? (i := 19) rfl))
    · exact hs _ (lw_sc2 _ (List.mem_of_getElem? (i := 20) rfl))
    · exact hs _ (lw_sc2 _ (List.mem_of_getElem? (i := 21) rfl))
    · exact hs _ (lw_sc2 _ (List.mem_of_getElem? (i := 22) rfl))
  obtain ⟨K, V, S, u⟩ := vk_Sof (args := #[Value.ref b]) (s := s) (N := 1) (tm := fun _ => (Term.string "OneHeavyLoad$Reader" 94)) (len := [4]) (byt := [[109, 105, 108, 101]]) (A := fun q => s.heap.size ≤ q) a1 (fun i hi => hs _ (lw_sc2 _ (List.mem_of_getElem? (i := 15) rfl))) (fun i hi => hs _ (lw_sc2 _ (List.mem_of_getElem? (i := 16) rfl))) (fun i hi => hs _ (lw_sc2 _ (List.mem_of_getElem? (i := 17) rfl))) a2 a3 (fun i j hi hj hne => absurd (show i = j by omega) hne) hnA
  exact ⟨K 0, V 0, S.1 0 (by decide), u 0 (by decide)⟩
set_option maxHeartbeats 4000000 in
set_option maxRecDepth 100000 in
theorem lw_st17 {s : State} {b : Nat} (hs : ∀ x ∈ flatC (Jvm.Cond.and given_1 narrow_1), x.before #[Value.ref b] s = true) (hnA : ∀ a : Nat, a < s.heap.size → ¬ (fun q : Nat => s.heap.size ≤ q) a) : ∃ K V : Nat, (va_O "java/lang/String" K (fun q => s.heap.size ≤ q) s s.heap ∧ va_OF "java/lang/String" "coder" "B" (.int 0) K (fun q => s.heap.size ≤ q) s s.heap ∧ va_OF "java/lang/String" "value" "[B" (.ref V) K (fun q => s.heap.size ≤ q) s s.heap ∧ va_T .byte V (oh_len 17) (fun i => .int (oh_byt 17 i)) (fun q => s.heap.size ≤ q) s s.heap) ∧ (Term.string "OneHeavyLoadModel" 200).eval #[Value.ref b] s none [] s = some (.ref K) := by
  have a1 : ∀ i : Nat, i < 1 → ([4] : List Nat).getD i 0 < 2 ^ 31 := by
    intro i hi
    obtain rfl : i = 0 := by omega
    decide
  have a2 : ∀ i : Nat, i < 1 → (Cond.eq (.length (.field (.string "OneHeavyLoadModel" 200) "java/lang/String" "value" "[B")) (.int (Int32.ofNat (([4] : List Nat).getD i 0)))).before #[Value.ref b] s = true := by
    intro i hi
    obtain rfl : i = 0 := by omega
    exact hs _ (lw_sc2 _ (List.mem_of_getElem? (i := 26) rfl))
  have a3 : ∀ i : Nat, i < 1 → ∀ j : Nat, j < ([4] : List Nat).getD i 0 → (Cond.eq (.elem (.field (.string "OneHeavyLoadModel" 200) "java/lang/String" "value" "[B") (.int (Int32.ofNat j))) (.int (([[114, 111, 97, 100]] : List (List Int32)).getD i [] |>.getD j 0))).before #[Value.ref b] s = true := by
    intro i hi j hj
    obtain rfl : i = 0 := by omega
    have hj : j < 4 := hj
    rcases (show j = 0 ∨ j = 1 ∨ j = 2 ∨ j = 3 by omega) with rfl | rfl | rfl | rfl
    · exact hs _ (lw_sc2 _ (List.mem_of_getElem? (i := 27) rfl))
    · exact hs _ (lw_sc2 _ (List.mem_of_getElem? (i := 28) rfl))
    · exact hs _ (lw_sc2 _ (List.mem_of_getElem? (i := 29) rfl))
    · exact hs _ (lw_sc2 _ (List.mem_of_getElem? (i := 30) rfl))
  obtain ⟨K, V, S, u⟩ := vk_Sof (args := #[Value.ref b]) (s := s) (N := 1) (tm := fun _ => (Term.string "OneHeavyLoadModel" 200)) (len := [4]) (byt := [[114, 111, 97, 100]]) (A := fun q => s.heap.size ≤ q) a1 (fun i hi => hs _ (lw_sc2 _ (List.mem_of_getElem? (i := 23) rfl))) (fun i hi => hs _ (lw_sc2 _ (List.mem_of_getElem? (i := 24) rfl))) (fun i hi => hs _ (lw_sc2 _ (List.mem_of_getElem? (i := 25) rfl))) a2 a3 (fun i j hi hj hne => absurd (show i = j by omega) hne) hnA
  exact ⟨K 0, V 0, S.1 0 (by decide), u 0 (by decide)⟩
set_option maxHeartbeats 4000000 in
set_option maxRecDepth 100000 in
theorem lw_st18 {s : State} {b : Nat} (hs : ∀ x ∈ flatC (Jvm.Cond.and given_1 narrow_1), x.before #[Value.ref b] s = true) (hnA : ∀ a : Nat, a < s.heap.size → ¬ (fun q : Nat => s.heap.size ≤ q) a) : ∃ K V : Nat, (va_O "java/lang/String" K (fun q => s.heap.size ≤ q) s s.heap ∧ va_OF "java/lang/String" "coder" "B" (.int 0) K (fun q => s.heap.size ≤ q) s s.heap ∧ va_OF "java/lang/String" "value" "[B" (.ref V) K (fun q => s.heap.size ≤ q) s s.heap ∧ va_T .byte V (oh_len 18) (fun i => .int (oh_byt 18 i)) (fun q => s.heap.size ≤ q) s s.heap) ∧ (Term.string "OneHeavyLoadModel" 219).eval #[Value.ref b] s none [] s = some (.ref K) := by
  have a1 : ∀ i : Nat, i < 1 → ([5] : List Nat).getD i 0 < 2 ^ 31 := by
    intro i hi
    obtain rfl : i = 0 := by omega
    decide
  have a2 : ∀ i : Nat, i < 1 → (Cond.eq (.length (.field (.string "OneHeavyLoadModel" 219) "java/lang/String" "value" "[B")) (.int (Int32.ofNat (([5] : List Nat).getD i 0)))).before #[Value.ref b] s = true := by
    intro i hi
    obtain rfl : i = 0 := by omega
    exact hs _ (lw_sc2 _ (List.mem_of_getElem? (i := 34) rfl))
  have a3 : ∀ i : Nat, i < 1 → ∀ j : Nat, j < ([5] : List Nat).getD i 0 → (Cond.eq (.elem (.field (.string "OneHeavyLoadModel" 219) "java/lang/String" "value" "[B") (.int (Int32.ofNat j))) (.int (([[109, 105, 108, 101, 115]] : List (List Int32)).getD i [] |>.getD j 0))).before #[Value.ref b] s = true := by
    intro i hi j hj
    obtain rfl : i = 0 := by omega
    have hj : j < 5 := hj
    rcases (show j = 0 ∨ j = 1 ∨ j = 2 ∨ j = 3 ∨ j = 4 by omega) with rfl | rfl | rfl | rfl | rfl
    · exact hs _ (lw_sc2 _ (List.mem_of_getElem? (i := 35) rfl))
    · exact hs _ (lw_sc2 _ (List.mem_of_getElem? (i := 36) rfl))
    · exact hs _ (lw_sc2 _ (List.mem_of_getElem? (i := 37) rfl))
    · exact hs _ (lw_sc2 _ (List.mem_of_getElem? (i := 38) rfl))
    · exact hs _ (lw_sc2 _ (List.mem_of_getElem? (i := 39) rfl))
  obtain ⟨K, V, S, u⟩ := vk_Sof (args := #[Value.ref b]) (s := s) (N := 1) (tm := fun _ => (Term.string "OneHeavyLoadModel" 219)) (len := [5]) (byt := [[109, 105, 108, 101, 115]]) (A := fun q => s.heap.size ≤ q) a1 (fun i hi => hs _ (lw_sc2 _ (List.mem_of_getElem? (i := 31) rfl))) (fun i hi => hs _ (lw_sc2 _ (List.mem_of_getElem? (i := 32) rfl))) (fun i hi => hs _ (lw_sc2 _ (List.mem_of_getElem? (i := 33) rfl))) a2 a3 (fun i j hi hj hne => absurd (show i = j by omega) hne) hnA
  exact ⟨K 0, V 0, S.1 0 (by decide), u 0 (by decide)⟩
set_option maxHeartbeats 4000000 in
set_option maxRecDepth 100000 in
theorem lw_st19 {s : State} {b : Nat} (hs : ∀ x ∈ flatC (Jvm.Cond.and given_1 narrow_1), x.before #[Value.ref b] s = true) (hnA : ∀ a : Nat, a < s.heap.size → ¬ (fun q : Nat => s.heap.size ≤ q) a) : ∃ K V : Nat, (va_O "java/lang/String" K (fun q => s.heap.size ≤ q) s s.heap ∧ va_OF "java/lang/String" "coder" "B" (.int 0) K (fun q => s.heap.size ≤ q) s s.heap ∧ va_OF "java/lang/String" "value" "[B" (.ref V) K (fun q => s.heap.size ≤ q) s s.heap ∧ va_T .byte V (oh_len 19) (fun i => .int (oh_byt 19 i)) (fun q => s.heap.size ≤ q) s s.heap) ∧ (Term.string "OneHeavyLoadModel" 221).eval #[Value.ref b] s none [] s = some (.ref K) := by
  have a1 : ∀ i : Nat, i < 1 → ([4] : List Nat).getD i 0 < 2 ^ 31 := by
    intro i hi
    obtain rfl : i = 0 := by omega
    decide
  have a2 : ∀ i : Nat, i < 1 → (Cond.eq (.length (.field (.string "OneHeavyLoadModel" 221) "java/lang/String" "value" "[B")) (.int (Int32.ofNat (([4] : List Nat).getD i 0)))).before #[Value.ref b] s = true := by
    intro i hi
    obtain rfl : i = 0 := by omega
    exact hs _ (lw_sc2 _ (List.mem_of_getElem? (i := 43) rfl))
  have a3 : ∀ i : Nat, i < 1 → ∀ j : Nat, j < ([4] : List Nat).getD i 0 → (Cond.eq (.elem (.field (.string "OneHeavyLoadModel" 221) "java/lang/String" "value" "[B") (.int (Int32.ofNat j))) (.int (([[114, 105, 115, 101]] : List (List Int32)).getD i [] |>.getD j 0))).before #[Value.ref b] s = true := by
    intro i hi j hj
    obtain rfl : i = 0 := by omega
    have hj : j < 4 := hj
    rcases (show j = 0 ∨ j = 1 ∨ j = 2 ∨ j = 3 by omega) with rfl | rfl | rfl | rfl
    · exact hs _ (lw_sc2 _ (List.mem_of_getElem? (i := 44) rfl))
    · exact hs _ (lw_sc2 _ (List.mem_of_getElem? (i := 45) rfl))
    · exact hs _ (lw_sc2 _ (List.mem_of_getElem? (i := 46) rfl))
    · exact hs _ (lw_sc2 _ (List.mem_of_getElem? (i := 47) rfl))
  obtain ⟨K, V, S, u⟩ := vk_Sof (args := #[Value.ref b]) (s := s) (N := 1) (tm := fun _ => (Term.string "OneHeavyLoadModel" 221)) (len := [4]) (byt := [[114, 105, 115, 101]]) (A := fun q => s.heap.size ≤ q) a1 (fun i hi => hs _ (lw_sc2 _ (List.mem_of_getElem? (i := 40) rfl))) (fun i hi => hs _ (lw_sc2 _ (List.mem_of_getElem? (i := 41) rfl))) (fun i hi => hs _ (lw_sc2 _ (List.mem_of_getElem? (i := 42) rfl))) a2 a3 (fun i j hi hj hne => absurd (show i = j by omega) hne) hnA
  exact ⟨K 0, V 0, S.1 0 (by decide), u 0 (by decide)⟩
set_option maxHeartbeats 4000000 in
set_option maxRecDepth 100000 in
theorem lw_st20 {s : State} {b : Nat} (hs : ∀ x ∈ flatC (Jvm.Cond.and given_1 narrow_1), x.before #[Value.ref b] s = true) (hnA : ∀ a : Nat, a < s.heap.size → ¬ (fun q : Nat => s.heap.size ≤ q) a) : ∃ K V : Nat, (va_O "java/lang/String" K (fun q => s.heap.size ≤ q) s s.heap ∧ va_OF "java/lang/String" "coder" "B" (.int 0) K (fun q => s.heap.size ≤ q) s s.heap ∧ va_OF "java/lang/String" "value" "[B" (.ref V) K (fun q => s.heap.size ≤ q) s s.heap ∧ va_T .byte V (oh_len 20) (fun i => .int (oh_byt 20 i)) (fun q => s.heap.size ≤ q) s s.heap) ∧ (Term.string "OneHeavyLoadModel" 226).eval #[Value.ref b] s none [] s = some (.ref K) := by
  have a1 : ∀ i : Nat, i < 1 → ([4] : List Nat).getD i 0 < 2 ^ 31 := by
    intro i hi
    obtain rfl : i = 0 := by omega
    decide
  have a2 : ∀ i : Nat, i < 1 → (Cond.eq (.length (.field (.string "OneHeavyLoadModel" 226) "java/lang/String" "value" "[B")) (.int (Int32.ofNat (([4] : List Nat).getD i 0)))).before #[Value.ref b] s = true := by
    intro i hi
    obtain rfl : i = 0 := by omega
    exact hs _ (lw_sc2 _ (List.mem_of_getElem? (i := 51) rfl))
  have a3 : ∀ i : Nat, i < 1 → ∀ j : Nat, j < ([4] : List Nat).getD i 0 → (Cond.eq (.elem (.field (.string "OneHeavyLoadModel" 226) "java/lang/String" "value" "[B") (.int (Int32.ofNat j))) (.int (([[116, 117, 114, 110]] : List (List Int32)).getD i [] |>.getD j 0))).before #[Value.ref b] s = true := by
    intro i hi j hj
    obtain rfl : i = 0 := by omega
    have hj : j < 4 := hj
    rcases (show j = 0 ∨ j = 1 ∨ j = 2 ∨ j = 3 by omega) with rfl | rfl | rfl | rfl
    · exact hs _ (lw_sc2 _ (List.mem_of_getElem? (i := 52) rfl))
    · exact hs _ (lw_sc2 _ (List.mem_of_getElem? (i := 53) rfl))
    · exact hs _ (lw_sc2 _ (List.mem_of_getElem? (i := 54) rfl))
    · exact hs _ (lw_sc2 _ (List.mem_of_getElem? (i := 55) rfl))
  obtain ⟨K, V, S, u⟩ := vk_Sof (args := #[Value.ref b]) (s := s) (N := 1) (tm := fun _ => (Term.string "OneHeavyLoadModel" 226)) (len := [4]) (byt := [[116, 117, 114, 110]]) (A := fun q => s.heap.size ≤ q) a1 (fun i hi => hs _ (lw_sc2 _ (List.mem_of_getElem? (i := 48) rfl))) (fun i hi => hs _ (lw_sc2 _ (List.mem_of_getElem? (i := 49) rfl))) (fun i hi => hs _ (lw_sc2 _ (List.mem_of_getElem? (i := 50) rfl))) a2 a3 (fun i j hi hj hne => absurd (show i = j by omega) hne) hnA
  exact ⟨K 0, V 0, S.1 0 (by decide), u 0 (by decide)⟩
set_option maxHeartbeats 4000000 in
set_option maxRecDepth 100000 in
theorem lw_st21 {s : State} {b : Nat} (hs : ∀ x ∈ flatC (Jvm.Cond.and given_1 narrow_1), x.before #[Value.ref b] s = true) (hnA : ∀ a : Nat, a < s.heap.size → ¬ (fun q : Nat => s.heap.size ≤ q) a) : ∃ K V : Nat, (va_O "java/lang/String" K (fun q => s.heap.size ≤ q) s s.heap ∧ va_OF "java/lang/String" "coder" "B" (.int 0) K (fun q => s.heap.size ≤ q) s s.heap ∧ va_OF "java/lang/String" "value" "[B" (.ref V) K (fun q => s.heap.size ≤ q) s s.heap ∧ va_T .byte V (oh_len 21) (fun i => .int (oh_byt 21 i)) (fun q => s.heap.size ≤ q) s s.heap) ∧ (Term.string "OneHeavyLoadModel" 228).eval #[Value.ref b] s none [] s = some (.ref K) := by
  have a1 : ∀ i : Nat, i < 1 → ([6] : List Nat).getD i 0 < 2 ^ 31 := by
    intro i hi
    obtain rfl : i = 0 := by omega
    decide
  have a2 : ∀ i : Nat, i < 1 → (Cond.eq (.length (.field (.string "OneHeavyLoadModel" 228) "java/lang/String" "value" "[B")) (.int (Int32.ofNat (([6] : List Nat).getD i 0)))).before #[Value.ref b] s = true := by
    intro i hi
    obtain rfl : i = 0 := by omega
    exact hs _ (lw_sc2 _ (List.mem_of_getElem? (i := 59) rfl))
  have a3 : ∀ i : Nat, i < 1 → ∀ j : Nat, j < ([6] : List Nat).getD i 0 → (Cond.eq (.elem (.field (.string "OneHeavyLoadModel" 228) "java/lang/String" "value" "[B") (.int (Int32.ofNat j))) (.int (([[112, 97, 114, 105, 115, 104]] : List (List Int32)).getD i [] |>.getD j 0))).before #[Value.ref b] s = true := by
    intro i hi j hj
    obtain rfl : i = 0 := by omega
    have hj : j < 6 := hj
    rcases (show j = 0 ∨ j = 1 ∨ j = 2 ∨ j = 3 ∨ j = 4 ∨ j = 5 by omega) with rfl | rfl | rfl | rfl | rfl | rfl
    · exact hs _ (lw_sc3 _ (List.mem_of_getElem? (i := 0) rfl))
    · exact hs _ (lw_sc3 _ (List.mem_of_getElem? (i := 1) rfl))
    · exact hs _ (lw_sc3 _ (List.mem_of_getElem? (i := 2) rfl))
    · exact hs _ (lw_sc3 _ (List.mem_of_getElem? (i := 3) rfl))
    · exact hs _ (lw_sc3 _ (List.mem_of_getElem? (i := 4) rfl))
    · exact hs _ (lw_sc3 _ (List.mem_of_getElem? (i := 5) rfl))
  obtain ⟨K, V, S, u⟩ := vk_Sof (args := #[Value.ref b]) (s := s) (N := 1) (tm := fun _ => (Term.string "OneHeavyLoadModel" 228)) (len := [6]) (byt := [[112, 97, 114, 105, 115, 104]]) (A := fun q => s.heap.size ≤ q) a1 (fun i hi => hs _ (lw_sc2 _ (List.mem_of_getElem? (i := 56) rfl))) (fun i hi => hs _ (lw_sc2 _ (List.mem_of_getElem? (i := 57) rfl))) (fun i hi => hs _ (lw_sc2 _ (List.mem_of_getElem? (i := 58) rfl))) a2 a3 (fun i j hi hj hne => absurd (show i = j by omega) hne) hnA
  exact ⟨K 0, V 0, S.1 0 (by decide), u 0 (by decide)⟩
set_option maxHeartbeats 4000000 in
set_option maxRecDepth 100000 in
theorem lw_st22 {s : State} {b : Nat} (hs : ∀ x ∈ flatC (Jvm.Cond.and given_1 narrow_1), x.before #[Value.ref b] s = true) (hnA : ∀ a : Nat, a < s.heap.size → ¬ (fun q : Nat => s.heap.size ≤ q) a) : ∃ K V : Nat, (va_O "java/lang/String" K (fun q => s.heap.size ≤ q) s s.heap ∧ va_OF "java/lang/String" "coder" "B" (.int 0) K (fun q => s.heap.size ≤ q) s s.heap ∧ va_OF "java/lang/String" "value" "[B" (.ref V) K (fun q => s.heap.size ≤ q) s s.heap ∧ va_T .byte V (oh_len 22) (fun i => .int (oh_byt 22 i)) (fun q => s.heap.size ≤ q) s s.heap) ∧ (Term.string "OneHeavyLoadModel" 205).eval #[Value.ref b] s none [] s = some (.ref K) := by
  have a1 : ∀ i : Nat, i < 1 → ([6] : List Nat).getD i 0 < 2 ^ 31 := by
    intro i hi
    obtain rfl : i = 0 := by omega
    decide
  have a2 : ∀ i : Nat, i < 1 → (Cond.eq (.length (.field (.string "OneHeavyLoadModel" 205) "java/lang/String" "value" "[B")) (.int (Int32.ofNat (([6] : List Nat).getD i 0)))).before #[Value.ref b] s = true := by
    intro i hi
    obtain rfl : i = 0 := by omega
    exact hs _ (lw_sc3 _ (List.mem_of_getElem? (i := 9) rfl))
  have a3 : ∀ i : Nat, i < 1 → ∀ j : Nat, j < ([6] : List Nat).getD i 0 → (Cond.eq (.elem (.field (.string "OneHeavyLoadModel" 205) "java/lang/String" "value" "[B") (.int (Int32.ofNat j))) (.int (([[98, 114, 105, 100, 103, 101]] : List (List Int32)).getD i [] |>.getD j 0))).before #[Value.ref b] s = true := by
    intro i hi j hj
    obtain rfl : i = 0 := by omega
    have hj : j < 6 := hj
    rcases (show j = 0 ∨ j = 1 ∨ j = 2 ∨ j = 3 ∨ j = 4 ∨ j = 5 by omega) with rfl | rfl | rfl | rfl | rfl | rfl
    · exact hs _ (lw_sc3 _ (List.mem_of_getElem? (i := 10) rfl))
    · exact hs _ (lw_sc3 _ (List.mem_of_getElem? (i := 11) rfl))
    · exact hs _ (lw_sc3 _ (List.mem_of_getElem? (i := 12) rfl))
    · exact hs _ (lw_sc3 _ (List.mem_of_getElem? (i := 13) rfl))
    · exact hs _ (lw_sc3 _ (List.mem_of_getElem? (i := 14) rfl))
    · exact hs _ (lw_sc3 _ (List.mem_of_getElem? (i := 15) rfl))
  obtain ⟨K, V, S, u⟩ := vk_Sof (args := #[Value.ref b]) (s := s) (N := 1) (tm := fun _ => (Term.string "OneHeavyLoadModel" 205)) (len := [6]) (byt := [[98, 114, 105, 100, 103, 101]]) (A := fun q => s.heap.size ≤ q) a1 (fun i hi => hs _ (lw_sc3 _ (List.mem_of_getElem? (i := 6) rfl))) (fun i hi => hs _ (lw_sc3 _ (List.mem_of_getElem? (i := 7) rfl))) (fun i hi => hs _ (lw_sc3 _ (List.mem_of_getElem? (i := 8) rfl))) a2 a3 (fun i j hi hj hne => absurd (show i = j by omega) hne) hnA
  exact ⟨K 0, V 0, S.1 0 (by decide), u 0 (by decide)⟩
set_option maxHeartbeats 4000000 in
set_option maxRecDepth 100000 in
theorem lw_st23 {s : State} {b : Nat} (hs : ∀ x ∈ flatC (Jvm.Cond.and given_1 narrow_1), x.before #[Value.ref b] s = true) (hnA : ∀ a : Nat, a < s.heap.size → ¬ (fun q : Nat => s.heap.size ≤ q) a) : ∃ K V : Nat, (va_O "java/lang/String" K (fun q => s.heap.size ≤ q) s s.heap ∧ va_OF "java/lang/String" "coder" "B" (.int 0) K (fun q => s.heap.size ≤ q) s s.heap ∧ va_OF "java/lang/String" "value" "[B" (.ref V) K (fun q => s.heap.size ≤ q) s s.heap ∧ va_T .byte V (oh_len 23) (fun i => .int (oh_byt 23 i)) (fun q => s.heap.size ≤ q) s s.heap) ∧ (Term.string "OneHeavyLoadModel" 230).eval #[Value.ref b] s none [] s = some (.ref K) := by
  have a1 : ∀ i : Nat, i < 1 → ([4] : List Nat).getD i 0 < 2 ^ 31 := by
    intro i hi
    obtain rfl : i = 0 := by omega
    decide
  have a2 : ∀ i : Nat, i < 1 → (Cond.eq (.length (.field (.string "OneHeavyLoadModel" 230) "java/lang/String" "value" "[B")) (.int (Int32.ofNat (([4] : List Nat).getD i 0)))).before #[Value.ref b] s = true := by
    intro i hi
    obtain rfl : i = 0 := by omega
    exact hs _ (lw_sc3 _ (List.mem_of_getElem? (i := 19) rfl))
  have a3 : ∀ i : Nat, i < 1 → ∀ j : Nat, j < ([4] : List Nat).getD i 0 → (Cond.eq (.elem (.field (.string "OneHeavyLoadModel" 230) "java/lang/String" "value" "[B") (.int (Int32.ofNat j))) (.int (([[107, 105, 110, 100]] : List (List Int32)).getD i [] |>.getD j 0))).before #[Value.ref b] s = true := by
    intro i hi j hj
    obtain rfl : i = 0 := by omega
    have hj : j < 4 := hj
    rcases (show j = 0 ∨ j = 1 ∨ j = 2 ∨ j = 3 by omega) with rfl | rfl | rfl | rfl
    · exact hs _ (lw_sc3 _ (List.mem_of_getElem? (i := 20) rfl))
    · exact hs _ (lw_sc3 _ (List.mem_of_getElem? (i := 21) rfl))
    · exact hs _ (lw_sc3 _ (List.mem_of_getElem? (i := 22) rfl))
    · exact hs _ (lw_sc3 _ (List.mem_of_getElem? (i := 23) rfl))
  obtain ⟨K, V, S, u⟩ := vk_Sof (args := #[Value.ref b]) (s := s) (N := 1) (tm := fun _ => (Term.string "OneHeavyLoadModel" 230)) (len := [4]) (byt := [[107, 105, 110, 100]]) (A := fun q => s.heap.size ≤ q) a1 (fun i hi => hs _ (lw_sc3 _ (List.mem_of_getElem? (i := 16) rfl))) (fun i hi => hs _ (lw_sc3 _ (List.mem_of_getElem? (i := 17) rfl))) (fun i hi => hs _ (lw_sc3 _ (List.mem_of_getElem? (i := 18) rfl))) a2 a3 (fun i j hi hj hne => absurd (show i = j by omega) hne) hnA
  exact ⟨K 0, V 0, S.1 0 (by decide), u 0 (by decide)⟩
set_option maxHeartbeats 4000000 in
set_option maxRecDepth 100000 in
theorem lw_st24 {s : State} {b : Nat} (hs : ∀ x ∈ flatC (Jvm.Cond.and given_1 narrow_1), x.before #[Value.ref b] s = true) (hnA : ∀ a : Nat, a < s.heap.size → ¬ (fun q : Nat => s.heap.size ≤ q) a) : ∃ K V : Nat, (va_O "java/lang/String" K (fun q => s.heap.size ≤ q) s s.heap ∧ va_OF "java/lang/String" "coder" "B" (.int 0) K (fun q => s.heap.size ≤ q) s s.heap ∧ va_OF "java/lang/String" "value" "[B" (.ref V) K (fun q => s.heap.size ≤ q) s s.heap ∧ va_T .byte V (oh_len 24) (fun i => .int (oh_byt 24 i)) (fun q => s.heap.size ≤ q) s s.heap) ∧ (Term.string "OneHeavyLoadModel" 232).eval #[Value.ref b] s none [] s = some (.ref K) := by
  have a1 : ∀ i : Nat, i < 1 → ([4] : List Nat).getD i 0 < 2 ^ 31 := by
    intro i hi
    obtain rfl : i = 0 := by omega
    decide
  have a2 : ∀ i : Nat, i < 1 → (Cond.eq (.length (.field (.string "OneHeavyLoadModel" 232) "java/lang/String" "value" "[B")) (.int (Int32.ofNat (([4] : List Nat).getD i 0)))).before #[Value.ref b] s = true := by
    intro i hi
    obtain rfl : i = 0 := by omega
    exact hs _ (lw_sc3 _ (List.mem_of_getElem? (i := 27) rfl))
  have a3 : ∀ i : Nat, i < 1 → ∀ j : Nat, j < ([4] : List Nat).getD i 0 → (Cond.eq (.elem (.field (.string "OneHeavyLoadModel" 232) "java/lang/String" "value" "[B") (.int (Int32.ofNat j))) (.int (([[115, 112, 97, 110]] : List (List Int32)).getD i [] |>.getD j 0))).before #[Value.ref b] s = true := by
    intro i hi j hj
    obtain rfl : i = 0 := by omega
    have hj : j < 4 := hj
    rcases (show j = 0 ∨ j = 1 ∨ j = 2 ∨ j = 3 by omega) with rfl | rfl | rfl | rfl
    · exact hs _ (lw_sc3 _ (List.mem_of_getElem? (i := 28) rfl))
    · exact hs _ (lw_sc3 _ (List.mem_of_getElem? (i := 29) rfl))
    · exact hs _ (lw_sc3 _ (List.mem_of_getElem? (i := 30) rfl))
    · exact hs _ (lw_sc3 _ (List.mem_of_getElem? (i := 31) rfl))
  obtain ⟨K, V, S, u⟩ := vk_Sof (args := #[Value.ref b]) (s := s) (N := 1) (tm := fun _ => (Term.string "OneHeavyLoadModel" 232)) (len := [4]) (byt := [[115, 112, 97, 110]]) (A := fun q => s.heap.size ≤ q) a1 (fun i hi => hs _ (lw_sc3 _ (List.mem_of_getElem? (i := 24) rfl))) (fun i hi => hs _ (lw_sc3 _ (List.mem_of_getElem? (i := 25) rfl))) (fun i hi => hs _ (lw_sc3 _ (List.mem_of_getElem? (i := 26) rfl))) a2 a3 (fun i j hi hj hne => absurd (show i = j by omega) hne) hnA
  exact ⟨K 0, V 0, S.1 0 (by decide), u 0 (by decide)⟩
set_option maxHeartbeats 4000000 in
set_option maxRecDepth 100000 in
theorem lw_st25 {s : State} {b : Nat} (hs : ∀ x ∈ flatC (Jvm.Cond.and given_1 narrow_1), x.before #[Value.ref b] s = true) (hnA : ∀ a : Nat, a < s.heap.size → ¬ (fun q : Nat => s.heap.size ≤ q) a) : ∃ K V : Nat, (va_O "java/lang/String" K (fun q => s.heap.size ≤ q) s s.heap ∧ va_OF "java/lang/String" "coder" "B" (.int 0) K (fun q => s.heap.size ≤ q) s s.heap ∧ va_OF "java/lang/String" "value" "[B" (.ref V) K (fun q => s.heap.size ≤ q) s s.heap ∧ va_T .byte V (oh_len 25) (fun i => .int (oh_byt 25 i)) (fun q => s.heap.size ≤ q) s s.heap) ∧ (Term.string "OneHeavyLoadModel" 234).eval #[Value.ref b] s none [] s = some (.ref K) := by
  have a1 : ∀ i : Nat, i < 1 → ([4] : List Nat).getD i 0 < 2 ^ 31 := by
    intro i hi
    obtain rfl : i = 0 := by omega
    decide
  have a2 : ∀ i : Nat, i < 1 → (Cond.eq (.length (.field (.string "OneHeavyLoadModel" 234) "java/lang/String" "value" "[B")) (.int (Int32.ofNat (([4] : List Nat).getD i 0)))).before #[Value.ref b] s = true := by
    intro i hi
    obtain rfl : i = 0 := by omega
    exact hs _ (lw_sc3 _ (List.mem_of_getElem? (i := 35) rfl))
  have a3 : ∀ i : Nat, i < 1 → ∀ j : Nat, j < ([4] : List Nat).getD i 0 → (Cond.eq (.elem (.field (.string "OneHeavyLoadModel" 234) "java/lang/String" "value" "[B") (.int (Int32.ofNat j))) (.int (([[97, 120, 108, 101]] : List (List Int32)).getD i [] |>.getD j 0))).before #[Value.ref b] s = true := by
    intro i hi j hj
    obtain rfl : i = 0 := by omega
    have hj : j < 4 := hj
    rcases (show j = 0 ∨ j = 1 ∨ j = 2 ∨ j = 3 by omega) with rfl | rfl | rfl | rfl
    · exact hs _ (lw_sc3 _ (List.mem_of_getElem? (i := 36) rfl))
    · exact hs _ (lw_sc3 _ (List.mem_of_getElem? (i := 37) rfl))
    · exact hs _ (lw_sc3 _ (List.mem_of_getElem? (i := 38) rfl))
    · exact hs _ (lw_sc3 _ (List.mem_of_getElem? (i := 39) rfl))
  obtain ⟨K, V, S, u⟩ := vk_Sof (args := #[Value.ref b]) (s := s) (N := 1) (tm := fun _ => (Term.string "OneHeavyLoadModel" 234)) (len := [4]) (byt := [[97, 120, 108, 101]]) (A := fun q => s.heap.size ≤ q) a1 (fun i hi => hs _ (lw_sc3 _ (List.mem_of_getElem? (i := 32) rfl))) (fun i hi => hs _ (lw_sc3 _ (List.mem_of_getElem? (i := 33) rfl))) (fun i hi => hs _ (lw_sc3 _ (List.mem_of_getElem? (i := 34) rfl))) a2 a3 (fun i j hi hj hne => absurd (show i = j by omega) hne) hnA
  exact ⟨K 0, V 0, S.1 0 (by decide), u 0 (by decide)⟩
set_option maxHeartbeats 4000000 in
set_option maxRecDepth 100000 in
theorem lw_st26 {s : State} {b : Nat} (hs : ∀ x ∈ flatC (Jvm.Cond.and given_1 narrow_1), x.before #[Value.ref b] s = true) (hnA : ∀ a : Nat, a < s.heap.size → ¬ (fun q : Nat => s.heap.size ≤ q) a) : ∃ K V : Nat, (va_O "java/lang/String" K (fun q => s.heap.size ≤ q) s s.heap ∧ va_OF "java/lang/String" "coder" "B" (.int 0) K (fun q => s.heap.size ≤ q) s s.heap ∧ va_OF "java/lang/String" "value" "[B" (.ref V) K (fun q => s.heap.size ≤ q) s s.heap ∧ va_T .byte V (oh_len 26) (fun i => .int (oh_byt 26 i)) (fun q => s.heap.size ≤ q) s s.heap) ∧ (Term.string "OneHeavyLoadModel" 236).eval #[Value.ref b] s none [] s = some (.ref K) := by
  have a1 : ∀ i : Nat, i < 1 → ([3] : List Nat).getD i 0 < 2 ^ 31 := by
    intro i hi
    obtain rfl : i = 0 := by omega
    decide
  have a2 : ∀ i : Nat, i < 1 → (Cond.eq (.length (.field (.string "OneHeavyLoadModel" 236) "java/lang/String" "value" "[B")) (.int (Int32.ofNat (([3] : List Nat).getD i 0)))).before #[Value.ref b] s = true := by
    intro i hi
    obtain rfl : i = 0 := by omega
    exact hs _ (lw_sc3 _ (List.mem_of_getElem? (i := 43) rfl))
  have a3 : ∀ i : Nat, i < 1 → ∀ j : Nat, j < ([3] : List Nat).getD i 0 → (Cond.eq (.elem (.field (.string "OneHeavyLoadModel" 236) "java/lang/String" "value" "[B") (.int (Int32.ofNat j))) (.int (([[97, 108, 108]] : List (List Int32)).getD i [] |>.getD j 0))).before #[Value.ref b] s = true := by
    intro i hi j hj
    obtain rfl : i = 0 := by omega
    have hj : j < 3 := hj
    rcases (show j = 0 ∨ j = 1 ∨ j = 2 by omega) with rfl | rfl | rfl
    · exact hs _ (lw_sc3 _ (List.mem_of_getElem? (i := 44) rfl))
    · exact hs _ (lw_sc3 _ (List.mem_of_getElem? (i := 45) rfl))
    · exact hs _ (lw_sc3 _ (List.mem_of_getElem? (i := 46) rfl))
  obtain ⟨K, V, S, u⟩ := vk_Sof (args := #[Value.ref b]) (s := s) (N := 1) (tm := fun _ => (Term.string "OneHeavyLoadModel" 236)) (len := [3]) (byt := [[97, 108, 108]]) (A := fun q => s.heap.size ≤ q) a1 (fun i hi => hs _ (lw_sc3 _ (List.mem_of_getElem? (i := 40) rfl))) (fun i hi => hs _ (lw_sc3 _ (List.mem_of_getElem? (i := 41) rfl))) (fun i hi => hs _ (lw_sc3 _ (List.mem_of_getElem? (i := 42) rfl))) a2 a3 (fun i j hi hj hne => absurd (show i = j by omega) hne) hnA
  exact ⟨K 0, V 0, S.1 0 (by decide), u 0 (by decide)⟩
set_option maxHeartbeats 4000000 in
set_option maxRecDepth 100000 in
theorem lw_st27 {s : State} {b : Nat} (hs : ∀ x ∈ flatC (Jvm.Cond.and given_1 narrow_1), x.before #[Value.ref b] s = true) (hnA : ∀ a : Nat, a < s.heap.size → ¬ (fun q : Nat => s.heap.size ≤ q) a) : ∃ K V : Nat, (va_O "java/lang/String" K (fun q => s.heap.size ≤ q) s s.heap ∧ va_OF "java/lang/String" "coder" "B" (.int 0) K (fun q => s.heap.size ≤ q) s s.heap ∧ va_OF "java/lang/String" "value" "[B" (.ref V) K (fun q => s.heap.size ≤ q) s s.heap ∧ va_T .byte V (oh_len 27) (fun i => .int (oh_byt 27 i)) (fun q => s.heap.size ≤ q) s s.heap) ∧ (Term.string "OneHeavyLoadModel" 238).eval #[Value.ref b] s none [] s = some (.ref K) := by
  have a1 : ∀ i : Nat, i < 1 → ([4] : List Nat).getD i 0 < 2 ^ 31 := by
    intro i hi
    obtain rfl : i = 0 := by omega
    decide
  have a2 : ∀ i : Nat, i < 1 → (Cond.eq (.length (.field (.string "OneHeavyLoadModel" 238) "java/lang/String" "value" "[B")) (.int (Int32.ofNat (([4] : List Nat).getD i 0)))).before #[Value.ref b] s = true := by
    intro i hi
    obtain rfl : i = 0 := by omega
    exact hs _ (lw_sc3 _ (List.mem_of_getElem? (i := 50) rfl))
  have a3 : ∀ i : Nat, i < 1 → ∀ j : Nat, j < ([4] : List Nat).getD i 0 → (Cond.eq (.elem (.field (.string "OneHeavyLoadModel" 238) "java/lang/String" "value" "[B") (.int (Int32.ofNat j))) (.int (([[112, 114, 111, 112]] : List (List Int32)).getD i [] |>.getD j 0))).before #[Value.ref b] s = true := by
    intro i hi j hj
    obtain rfl : i = 0 := by omega
    have hj : j < 4 := hj
    rcases (show j = 0 ∨ j = 1 ∨ j = 2 ∨ j = 3 by omega) with rfl | rfl | rfl | rfl
    · exact hs _ (lw_sc3 _ (List.mem_of_getElem? (i := 51) rfl))
    · exact hs _ (lw_sc3 _ (List.mem_of_getElem? (i := 52) rfl))
    · exact hs _ (lw_sc3 _ (List.mem_of_getElem? (i := 53) rfl))
    · exact hs _ (lw_sc3 _ (List.mem_of_getElem? (i := 54) rfl))
  obtain ⟨K, V, S, u⟩ := vk_Sof (args := #[Value.ref b]) (s := s) (N := 1) (tm := fun _ => (Term.string "OneHeavyLoadModel" 238)) (len := [4]) (byt := [[112, 114, 111, 112]]) (A := fun q => s.heap.size ≤ q) a1 (fun i hi => hs _ (lw_sc3 _ (List.mem_of_getElem? (i := 47) rfl))) (fun i hi => hs _ (lw_sc3 _ (List.mem_of_getElem? (i := 48) rfl))) (fun i hi => hs _ (lw_sc3 _ (List.mem_of_getElem? (i := 49) rfl))) a2 a3 (fun i j hi hj hne => absurd (show i = j by omega) hne) hnA
  exact ⟨K 0, V 0, S.1 0 (by decide), u 0 (by decide)⟩
set_option maxHeartbeats 4000000 in
set_option maxRecDepth 100000 in
theorem lw_st28 {s : State} {b : Nat} (hs : ∀ x ∈ flatC (Jvm.Cond.and given_1 narrow_1), x.before #[Value.ref b] s = true) (hnA : ∀ a : Nat, a < s.heap.size → ¬ (fun q : Nat => s.heap.size ≤ q) a) : ∃ K V : Nat, (va_O "java/lang/String" K (fun q => s.heap.size ≤ q) s s.heap ∧ va_OF "java/lang/String" "coder" "B" (.int 0) K (fun q => s.heap.size ≤ q) s s.heap ∧ va_OF "java/lang/String" "value" "[B" (.ref V) K (fun q => s.heap.size ≤ q) s s.heap ∧ va_T .byte V (oh_len 28) (fun i => .int (oh_byt 28 i)) (fun q => s.heap.size ≤ q) s s.heap) ∧ (Term.string "OneHeavyLoadModel" 209).eval #[Value.ref b] s none [] s = some (.ref K) := by
  have a1 : ∀ i : Nat, i < 1 → ([6] : List Nat).getD i 0 < 2 ^ 31 := by
    intro i hi
    obtain rfl : i = 0 := by omega
    decide
  have a2 : ∀ i : Nat, i < 1 → (Cond.eq (.length (.field (.string "OneHeavyLoadModel" 209) "java/lang/String" "value" "[B")) (.int (Int32.ofNat (([6] : List Nat).getD i 0)))).before #[Value.ref b] s = true := by
    intro i hi
    obtain rfl : i = 0 := by omega
    exact hs _ (lw_sc3 _ (List.mem_of_getElem? (i := 58) rfl))
  have a3 : ∀ i : Nat, i < 1 → ∀ j : Nat, j < ([6] : List Nat).getD i 0 → (Cond.eq (.elem (.field (.string "OneHeavyLoadModel" 209) "java/lang/String" "value" "[B") (.int (Int32.ofNat j))) (.int (([[119, 97, 103, 103, 111, 110]] : List (List Int32)).getD i [] |>.getD j 0))).before #[Value.ref b] s = true := by
    intro i hi j hj
    obtain rfl : i = 0 := by omega
    have hj : j < 6 := hj
    rcases (show j = 0 ∨ j = 1 ∨ j = 2 ∨ j = 3 ∨ j = 4 ∨ j = 5 by omega) with rfl | rfl | rfl | rfl | rfl | rfl
    · exact hs _ (lw_sc3 _ (List.mem_of_getElem? (i := 59) rfl))
    · exact hs _ (lw_sc4 _ (List.mem_of_getElem? (i := 0) rfl))
    · exact hs _ (lw_sc4 _ (List.mem_of_getElem? (i := 1) rfl))
    · exact hs _ (lw_sc4 _ (List.mem_of_getElem? (i := 2) rfl))
    · exact hs _ (lw_sc4 _ (List.mem_of_getElem? (i := 3) rfl))
    · exact hs _ (lw_sc4 _ (List.mem_of_getElem? (i := 4) rfl))
  obtain ⟨K, V, S, u⟩ := vk_Sof (args := #[Value.ref b]) (s := s) (N := 1) (tm := fun _ => (Term.string "OneHeavyLoadModel" 209)) (len := [6]) (byt := [[119, 97, 103, 103, 111, 110]]) (A := fun q => s.heap.size ≤ q) a1 (fun i hi => hs _ (lw_sc3 _ (List.mem_of_getElem? (i := 55) rfl))) (fun i hi => hs _ (lw_sc3 _ (List.mem_of_getElem? (i := 56) rfl))) (fun i hi => hs _ (lw_sc3 _ (List.mem_of_getElem? (i := 57) rfl))) a2 a3 (fun i j hi hj hne => absurd (show i = j by omega) hne) hnA
  exact ⟨K 0, V 0, S.1 0 (by decide), u 0 (by decide)⟩
set_option maxHeartbeats 4000000 in
set_option maxRecDepth 100000 in
theorem lw_st29 {s : State} {b : Nat} (hs : ∀ x ∈ flatC (Jvm.Cond.and given_1 narrow_1), x.before #[Value.ref b] s = true) (hnA : ∀ a : Nat, a < s.heap.size → ¬ (fun q : Nat => s.heap.size ≤ q) a) : ∃ K V : Nat, (va_O "java/lang/String" K (fun q => s.heap.size ≤ q) s s.heap ∧ va_OF "java/lang/String" "coder" "B" (.int 0) K (fun q => s.heap.size ≤ q) s s.heap ∧ va_OF "java/lang/String" "value" "[B" (.ref V) K (fun q => s.heap.size ≤ q) s s.heap ∧ va_T .byte V (oh_len 29) (fun i => .int (oh_byt 29 i)) (fun q => s.heap.size ≤ q) s s.heap) ∧ (Term.string "OneHeavyLoadModel" 210).eval #[Value.ref b] s none [] s = some (.ref K) := by
  have a1 : ∀ i : Nat, i < 1 → ([5] : List Nat).getD i 0 < 2 ^ 31 := by
    intro i hi
    obtain rfl : i = 0 := by omega
    decide
  have a2 : ∀ i : Nat, i < 1 → (Cond.eq (.length (.field (.string "OneHeavyLoadModel" 210) "java/lang/String" "value" "[B")) (.int (Int32.ofNat (([5] : List Nat).getD i 0)))).before #[Value.ref b] s = true := by
    intro i hi
    obtain rfl : i = 0 := by omega
    exact hs _ (lw_sc4 _ (List.mem_of_getElem? (i := 8) rfl))
  have a3 : ∀ i : Nat, i < 1 → ∀ j : Nat, j < ([5] : List Nat).getD i 0 → (Cond.eq (.elem (.field (.string "OneHeavyLoadModel" 210) "java/lang/String" "value" "[B") (.int (Int32.ofNat j))) (.int (([[115, 112, 97, 99, 101]] : List (List Int32)).getD i [] |>.getD j 0))).before #[Value.ref b] s = true := by
    intro i hi j hj
    obtain rfl : i = 0 := by omega
    have hj : j < 5 := hj
    rcases (show j = 0 ∨ j = 1 ∨ j = 2 ∨ j = 3 ∨ j = 4 by omega) with rfl | rfl | rfl | rfl | rfl
    · exact hs _ (lw_sc4 _ (List.mem_of_getElem? (i := 9) rfl))
    · exact hs _ (lw_sc4 _ (List.mem_of_getElem? (i := 10) rfl))
    · exact hs _ (lw_sc4 _ (List.mem_of_getElem? (i := 11) rfl))
    · exact hs _ (lw_sc4 _ (List.mem_of_getElem? (i := 12) rfl))
    · exact hs _ (lw_sc4 _ (List.mem_of_getElem? (i := 13) rfl))
  obtain ⟨K, V, S, u⟩ := vk_Sof (args := #[Value.ref b]) (s := s) (N := 1) (tm := fun _ => (Term.string "OneHeavyLoadModel" 210)) (len := [5]) (byt := [[115, 112, 97, 99, 101]]) (A := fun q => s.heap.size ≤ q) a1 (fun i hi => hs _ (lw_sc4 _ (List.mem_of_getElem? (i := 5) rfl))) (fun i hi => hs _ (lw_sc4 _ (List.mem_of_getElem? (i := 6) rfl))) (fun i hi => hs _ (lw_sc4 _ (List.mem_of_getElem? (i := 7) rfl))) a2 a3 (fun i j hi hj hne => absurd (show i = j by omega) hne) hnA
  exact ⟨K 0, V 0, S.1 0 (by decide), u 0 (by decide)⟩
set_option maxHeartbeats 4000000 in
set_option maxRecDepth 100000 in
theorem lw_st30 {s : State} {b : Nat} (hs : ∀ x ∈ flatC (Jvm.Cond.and given_1 narrow_1), x.before #[Value.ref b] s = true) (hnA : ∀ a : Nat, a < s.heap.size → ¬ (fun q : Nat => s.heap.size ≤ q) a) : ∃ K V : Nat, (va_O "java/lang/String" K (fun q => s.heap.size ≤ q) s s.heap ∧ va_OF "java/lang/String" "coder" "B" (.int 0) K (fun q => s.heap.size ≤ q) s s.heap ∧ va_OF "java/lang/String" "value" "[B" (.ref V) K (fun q => s.heap.size ≤ q) s s.heap ∧ va_T .byte V (oh_len 30) (fun i => .int (oh_byt 30 i)) (fun q => s.heap.size ≤ q) s s.heap) ∧ (Term.string "OneHeavyLoadModel" 212).eval #[Value.ref b] s none [] s = some (.ref K) := by
  have a1 : ∀ i : Nat, i < 1 → ([4] : List Nat).getD i 0 < 2 ^ 31 := by
    intro i hi
    obtain rfl : i = 0 := by omega
    decide
  have a2 : ∀ i : Nat, i < 1 → (Cond.eq (.length (.field (.string "OneHeavyLoadModel" 212) "java/lang/String" "value" "[B")) (.int (Int32.ofNat (([4] : List Nat).getD i 0)))).before #[Value.ref b] s = true := by
    intro i hi
    obtain rfl : i = 0 := by omega
    exact hs _ (lw_sc4 _ (List.mem_of_getElem? (i := 17) rfl))
  have a3 : ∀ i : Nat, i < 1 → ∀ j : Nat, j < ([4] : List Nat).getD i 0 → (Cond.eq (.elem (.field (.string "OneHeavyLoadModel" 212) "java/lang/String" "value" "[B") (.int (Int32.ofNat j))) (.int (([[116, 97, 114, 101]] : List (List Int32)).getD i [] |>.getD j 0))).before #[Value.ref b] s = true := by
    intro i hi j hj
    obtain rfl : i = 0 := by omega
    have hj : j < 4 := hj
    rcases (show j = 0 ∨ j = 1 ∨ j = 2 ∨ j = 3 by omega) with rfl | rfl | rfl | rfl
    · exact hs _ (lw_sc4 _ (List.mem_of_getElem? (i := 18) rfl))
    · exact hs _ (lw_sc4 _ (List.mem_of_getElem? (i := 19) rfl))
    · exact hs _ (lw_sc4 _ (List.mem_of_getElem? (i := 20) rfl))
    · exact hs _ (lw_sc4 _ (List.mem_of_getElem? (i := 21) rfl))
  obtain ⟨K, V, S, u⟩ := vk_Sof (args := #[Value.ref b]) (s := s) (N := 1) (tm := fun _ => (Term.string "OneHeavyLoadModel" 212)) (len := [4]) (byt := [[116, 97, 114, 101]]) (A := fun q => s.heap.size ≤ q) a1 (fun i hi => hs _ (lw_sc4 _ (List.mem_of_getElem? (i := 14) rfl))) (fun i hi => hs _ (lw_sc4 _ (List.mem_of_getElem? (i := 15) rfl))) (fun i hi => hs _ (lw_sc4 _ (List.mem_of_getElem? (i := 16) rfl))) a2 a3 (fun i j hi hj hne => absurd (show i = j by omega) hne) hnA
  exact ⟨K 0, V 0, S.1 0 (by decide), u 0 (by decide)⟩
set_option maxHeartbeats 4000000 in
set_option maxRecDepth 100000 in
theorem lw_st31 {s : State} {b : Nat} (hs : ∀ x ∈ flatC (Jvm.Cond.and given_1 narrow_1), x.before #[Value.ref b] s = true) (hnA : ∀ a : Nat, a < s.heap.size → ¬ (fun q : Nat => s.heap.size ≤ q) a) : ∃ K V : Nat, (va_O "java/lang/String" K (fun q => s.heap.size ≤ q) s s.heap ∧ va_OF "java/lang/String" "coder" "B" (.int 0) K (fun q => s.heap.size ≤ q) s s.heap ∧ va_OF "java/lang/String" "value" "[B" (.ref V) K (fun q => s.heap.size ≤ q) s s.heap ∧ va_T .byte V (oh_len 31) (fun i => .int (oh_byt 31 i)) (fun q => s.heap.size ≤ q) s s.heap) ∧ (Term.string "OneHeavyLoadModel" 214).eval #[Value.ref b] s none [] s = some (.ref K) := by
  have a1 : ∀ i : Nat, i < 1 → ([4] : List Nat).getD i 0 < 2 ^ 31 := by
    intro i hi
    obtain rfl : i = 0 := by omega
    decide
  have a2 : ∀ i : Nat, i < 1 → (Cond.eq (.length (.field (.string "OneHeavyLoadModel" 214) "java/lang/String" "value" "[B")) (.int (Int32.ofNat (([4] : List Nat).getD i 0)))).before #[Value.ref b] s = true := by
    intro i hi
    obtain rfl : i = 0 := by omega
    exact hs _ (lw_sc4 _ (List.mem_of_getElem? (i := 25) rfl))
  have a3 : ∀ i : Nat, i < 1 → ∀ j : Nat, j < ([4] : List Nat).getD i 0 → (Cond.eq (.elem (.field (.string "OneHeavyLoadModel" 214) "java/lang/String" "value" "[B") (.int (Int32.ofNat j))) (.int (([[112, 97, 114, 116]] : List (List Int32)).getD i [] |>.getD j 0))).before #[Value.ref b] s = true := by
    intro i hi j hj
    obtain rfl : i = 0 := by omega
    have hj : j < 4 := hj
    rcases (show j = 0 ∨ j = 1 ∨ j = 2 ∨ j = 3 by omega) with rfl | rfl | rfl | rfl
    · exact hs _ (lw_sc4 _ (List.mem_of_getElem? (i := 26) rfl))
    · exact hs _ (lw_sc4 _ (List.mem_of_getElem? (i := 27) rfl))
    · exact hs _ (lw_sc4 _ (List.mem_of_getElem? (i := 28) rfl))
    · exact hs _ (lw_sc4 _ (List.mem_of_getElem? (i := 29) rfl))
  obtain ⟨K, V, S, u⟩ := vk_Sof (args := #[Value.ref b]) (s := s) (N := 1) (tm := fun _ => (Term.string "OneHeavyLoadModel" 214)) (len := [4]) (byt := [[112, 97, 114, 116]]) (A := fun q => s.heap.size ≤ q) a1 (fun i hi => hs _ (lw_sc4 _ (List.mem_of_getElem? (i := 22) rfl))) (fun i hi => hs _ (lw_sc4 _ (List.mem_of_getElem? (i := 23) rfl))) (fun i hi => hs _ (lw_sc4 _ (List.mem_of_getElem? (i := 24) rfl))) a2 a3 (fun i j hi hj hne => absurd (show i = j by omega) hne) hnA
  exact ⟨K 0, V 0, S.1 0 (by decide), u 0 (by decide)⟩
set_option maxHeartbeats 4000000 in
set_option maxRecDepth 100000 in
theorem lw_st32 {s : State} {b : Nat} (hs : ∀ x ∈ flatC (Jvm.Cond.and given_1 narrow_1), x.before #[Value.ref b] s = true) (hnA : ∀ a : Nat, a < s.heap.size → ¬ (fun q : Nat => s.heap.size ≤ q) a) : ∃ K V : Nat, (va_O "java/lang/String" K (fun q => s.heap.size ≤ q) s s.heap ∧ va_OF "java/lang/String" "coder" "B" (.int 0) K (fun q => s.heap.size ≤ q) s s.heap ∧ va_OF "java/lang/String" "value" "[B" (.ref V) K (fun q => s.heap.size ≤ q) s s.heap ∧ va_T .byte V (oh_len 32) (fun i => .int (oh_byt 32 i)) (fun q => s.heap.size ≤ q) s s.heap) ∧ (Term.string "OneHeavyLoadModel" 215).eval #[Value.ref b] s none [] s = some (.ref K) := by
  have a1 : ∀ i : Nat, i < 1 → ([4] : List Nat).getD i 0 < 2 ^ 31 := by
    intro i hi
    obtain rfl : i = 0 := by omega
    decide
  have a2 : ∀ i : Nat, i < 1 → (Cond.eq (.length (.field (.string "OneHeavyLoadModel" 215) "java/lang/String" "value" "[B")) (.int (Int32.ofNat (([4] : List Nat).getD i 0)))).before #[Value.ref b] s = true := by
    intro i hi
    obtain rfl : i = 0 := by omega
    exact hs _ (lw_sc4 _ (List.mem_of_getElem? (i := 33) rfl))
  have a3 : ∀ i : Nat, i < 1 → ∀ j : Nat, j < ([4] : List Nat).getD i 0 → (Cond.eq (.elem (.field (.string "OneHeavyLoadModel" 215) "java/lang/String" "value" "[B") (.int (Int32.ofNat j))) (.int (([[108, 111, 97, 100]] : List (List Int32)).getD i [] |>.getD j 0))).before #[Value.ref b] s = true := by
    intro i hi j hj
    obtain rfl : i = 0 := by omega
    have hj : j < 4 := hj
    rcases (show j = 0 ∨ j = 1 ∨ j = 2 ∨ j = 3 by omega) with rfl | rfl | rfl | rfl
    · exact hs _ (lw_sc4 _ (List.mem_of_getElem? (i := 34) rfl))
    · exact hs _ (lw_sc4 _ (List.mem_of_getElem? (i := 35) rfl))
    · exact hs _ (lw_sc4 _ (List.mem_of_getElem? (i := 36) rfl))
    · exact hs _ (lw_sc4 _ (List.mem_of_getElem? (i := 37) rfl))
  obtain ⟨K, V, S, u⟩ := vk_Sof (args := #[Value.ref b]) (s := s) (N := 1) (tm := fun _ => (Term.string "OneHeavyLoadModel" 215)) (len := [4]) (byt := [[108, 111, 97, 100]]) (A := fun q => s.heap.size ≤ q) a1 (fun i hi => hs _ (lw_sc4 _ (List.mem_of_getElem? (i := 30) rfl))) (fun i hi => hs _ (lw_sc4 _ (List.mem_of_getElem? (i := 31) rfl))) (fun i hi => hs _ (lw_sc4 _ (List.mem_of_getElem? (i := 32) rfl))) a2 a3 (fun i j hi hj hne => absurd (show i = j by omega) hne) hnA
  exact ⟨K 0, V 0, S.1 0 (by decide), u 0 (by decide)⟩
set_option maxHeartbeats 4000000 in
set_option maxRecDepth 100000 in
theorem lw_st33 {s : State} {b : Nat} (hs : ∀ x ∈ flatC (Jvm.Cond.and given_1 narrow_1), x.before #[Value.ref b] s = true) (hnA : ∀ a : Nat, a < s.heap.size → ¬ (fun q : Nat => s.heap.size ≤ q) a) : ∃ K V : Nat, (va_O "java/lang/String" K (fun q => s.heap.size ≤ q) s s.heap ∧ va_OF "java/lang/String" "coder" "B" (.int 0) K (fun q => s.heap.size ≤ q) s s.heap ∧ va_OF "java/lang/String" "value" "[B" (.ref V) K (fun q => s.heap.size ≤ q) s s.heap ∧ va_T .byte V (oh_len 33) (fun i => .int (oh_byt 33 i)) (fun q => s.heap.size ≤ q) s s.heap) ∧ (Term.string "OneHeavyLoadModel" 217).eval #[Value.ref b] s none [] s = some (.ref K) := by
  have a1 : ∀ i : Nat, i < 1 → ([4] : List Nat).getD i 0 < 2 ^ 31 := by
    intro i hi
    obtain rfl : i = 0 := by omega
    decide
  have a2 : ∀ i : Nat, i < 1 → (Cond.eq (.length (.field (.string "OneHeavyLoadModel" 217) "java/lang/String" "value" "[B")) (.int (Int32.ofNat (([4] : List Nat).getD i 0)))).before #[Value.ref b] s = true := by
    intro i hi
    obtain rfl : i = 0 := by omega
    exact hs _ (lw_sc4 _ (List.mem_of_getElem? (i := 41) rfl))
  have a3 : ∀ i : Nat, i < 1 → ∀ j : Nat, j < ([4] : List Nat).getD i 0 → (Cond.eq (.elem (.field (.string "OneHeavyLoadModel" 217) "java/lang/String" "value" "[B") (.int (Int32.ofNat j))) (.int (([[109, 105, 108, 101]] : List (List Int32)).getD i [] |>.getD j 0))).before #[Value.ref b] s = true := by
    intro i hi j hj
    obtain rfl : i = 0 := by omega
    have hj : j < 4 := hj
    rcases (show j = 0 ∨ j = 1 ∨ j = 2 ∨ j = 3 by omega) with rfl | rfl | rfl | rfl
    · exact hs _ (lw_sc4 _ (List.mem_of_getElem? (i := 42) rfl))
    · exact hs _ (lw_sc4 _ (List.mem_of_getElem? (i := 43) rfl))
    · exact hs _ (lw_sc4 _ (List.mem_of_getElem? (i := 44) rfl))
    · exact hs _ (lw_sc4 _ (List.mem_of_getElem? (i := 45) rfl))
  obtain ⟨K, V, S, u⟩ := vk_Sof (args := #[Value.ref b]) (s := s) (N := 1) (tm := fun _ => (Term.string "OneHeavyLoadModel" 217)) (len := [4]) (byt := [[109, 105, 108, 101]]) (A := fun q => s.heap.size ≤ q) a1 (fun i hi => hs _ (lw_sc4 _ (List.mem_of_getElem? (i := 38) rfl))) (fun i hi => hs _ (lw_sc4 _ (List.mem_of_getElem? (i := 39) rfl))) (fun i hi => hs _ (lw_sc4 _ (List.mem_of_getElem? (i := 40) rfl))) a2 a3 (fun i j hi hj hne => absurd (show i = j by omega) hne) hnA
  exact ⟨K 0, V 0, S.1 0 (by decide), u 0 (by decide)⟩
