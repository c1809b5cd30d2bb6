set_option maxHeartbeats 4000000 in
set_option maxRecDepth 100000 in
/-- the law at one call of told -/
theorem lc_told {p : Program} {e : Env} {s : State} {m : MethodId} {below : List Frame} {meth : Method} {c : Code} (l : Launch) {b : Nat} {xs : Nat → Int32} (C0 : lw_At p s m meth c b 8 xs) {D : va_G} {E : Nat → ClassId} {G : Nat → Nat} {A : Nat → Prop} (hAe : A = fun q => s.heap.size ≤ q) (hK : va_K D vwCl (oh_ty E) s) (hG : oh_G G A s) {xa ma r1 r2 r3 r4 r5 : Nat → Nat} {H : Heap} {locs : List Loc} (hP : va_P D vwCl (lw_x E xa ++ lw_m E ma r1 r2 r3 r4 r5) H) (hD : va_D A (lw_x E xa ++ lw_m E ma r1 r2 r3 r4 r5)) (hS : va_S A s.heap H locs) {ls : Array Slot} (hl : lv_has ls 4 [(3, .int 0), (2, .ref (ma 0)), (1, .ref (xa 0)), (0, .ref b)]) : W p l e room_1 s m #[Value.ref b] below meth c H locs 109 2593 (lw_Z below #[Value.ref b] s) (F0 m 1564 ls []) := by
  obtain ⟨hx, hb, hr, hml, hown, hts, hX, hbl, hlocks, hgv⟩ := id C0
  have hown : s.vm.findClass RL = some m.cls := hown
  have htg : ∀ w ∈ oh_t, w.before _ s = true := fun w h => hts w (List.mem_filter.mp h).1
  have hA : ∀ q, s.heap.size ≤ q → A q := fun q h => by rw [hAe]; exact h
  have hbA : ¬ A b := by rw [hAe]; exact Nat.not_le.mpr hbl
  refine lv_aload_n hx hb dL_law_1564 rfl (lv_at hl 2 rfl) ?_
  refine lv_aload_n hx hb dL_law_1565 rfl (lv_at hl 3 rfl) ?_
  refine lv_iload_n hx hb dL_law_1566 rfl (lv_at hl 0 rfl) ?_
  refine lv_iconst (v := 1) hx hb dL_law_1567 (by decide) ?_
  refine lv_iadd hx hb dL_law_1568 ?_
  refine oh_nrm (v := 1) (by decide) ?_
  refine va_sld hx hb hX hbl hbA hS (show vp_in 1 8 by unfold vp_in; decide) dL_law_1569 ?_
  refine oh_nrm (v := xs 1) rfl ?_
  refine lv_aload_n hx hb dL_law_1570 rfl (lv_at hl 3 rfl) ?_
  refine lv_iload_n hx hb dL_law_1571 rfl (lv_at hl 0 rfl) ?_
  refine lv_iconst (v := 2) hx hb dL_law_1572 (by decide) ?_
  refine lv_iadd hx hb dL_law_1573 ?_
  refine oh_nrm (v := 2) (by decide) ?_
  refine va_sld hx hb hX hbl hbA hS (show vp_in 2 8 by unfold vp_in; decide) dL_law_1574 ?_
  refine oh_nrm (v := xs 2) rfl ?_
  refine lv_aload_n hx hb dL_law_1575 rfl (lv_at hl 3 rfl) ?_
  refine lv_iload_n hx hb dL_law_1576 rfl (lv_at hl 0 rfl) ?_
  refine lv_iconst (v := 3) hx hb dL_law_1577 (by decide) ?_
  refine lv_iadd hx hb dL_law_1578 ?_
  refine oh_nrm (v := 3) (by decide) ?_
  refine va_sld hx hb hX hbl hbA hS (show vp_in 3 8 by unfold vp_in; decide) dL_law_1579 ?_
  refine oh_nrm (v := xs 3) rfl ?_
  refine lv_aload_n hx hb dL_law_1580 rfl (lv_at hl 3 rfl) ?_
  refine lv_iload_n hx hb dL_law_1581 rfl (lv_at hl 0 rfl) ?_
  refine lv_iconst (v := 4) hx hb dL_law_1582 (by decide) ?_
  refine lv_iadd hx hb dL_law_1583 ?_
  refine oh_nrm (v := 4) (by decide) ?_
  refine va_sld hx hb hX hbl hbA hS (show vp_in 4 8 by unfold vp_in; decide) dL_law_1584 ?_
  refine oh_nrm (v := xs 4) rfl ?_
  refine lv_aload_n hx hb dL_law_1585 rfl (lv_at hl 3 rfl) ?_
  refine lv_iload_n hx hb dL_law_1586 rfl (lv_at hl 0 rfl) ?_
  refine lv_iconst (v := 5) hx hb dL_law_1587 (by decide) ?_
  refine lv_iadd hx hb dL_law_1588 ?_
  refine oh_nrm (v := 5) (by decide) ?_
  refine va_sld hx hb hX hbl hbA hS (show vp_in 5 8 by unfold vp_in; decide) dL_law_1589 ?_
  refine oh_nrm (v := xs 5) rfl ?_
  refine lv_aload_n hx hb dL_law_1590 rfl (lv_at hl 3 rfl) ?_
  refine lv_iload_n hx hb dL_law_1591 rfl (lv_at hl 0 rfl) ?_
  refine lv_bipush (v := 6) hx hb dL_law_1592 (by decide) ?_
  refine lv_iadd hx hb dL_law_1594 ?_
  refine oh_nrm (v := 6) (by decide) ?_
  refine va_sld hx hb hX hbl hbA hS (show vp_in 6 8 by unfold vp_in; decide) dL_law_1595 ?_
  refine oh_nrm (v := xs 6) rfl ?_
  refine oh_lV (wx := lw_x E xa) (wm := lw_m E ma r1 r2 r3 r4 r5) (As := [.int (xs 1), .int (xs 2), .int (xs 3), .int (xs 4), .int (xs 5), .int (xs 6)]) (rest := []) ⟨hx, hb, hml, hown, htg⟩ (c_X6_told l D E G H.size (xa 0) (xs 1) (xs 2) (xs 3) (xs 4) (xs 5) (xs 6) (xa 1) (xa 9) (xa 17) (xa 24) (xa 28) (xa 30) (xa 33) (xa 34) (xa 2) (xa 3) (xa 4) (xa 5) (xa 6) (xa 7) (xa 8)) (cwV 6 htg (oh_gV q_850 q_851 q_852 q_66 q_853) rfl rfl rfl pdVX6_told ⟨Nat.le_of_ble_eq_true rfl, Nat.le_of_ble_eq_true rfl⟩) hK hP hD hG hS hA [0, 1, 2, 33] rfl (by decide) (show ∀ i ∈ ([0, 1, 2, 33] : List Nat), i < 35 by decide) (va_recv hK hP (ci := 6) (q0 := 0) rfl rfl) rfl hl.1 rfl (Nat.le_of_ble_eq_true rfl) dL_law_1596 ⟨(show 109 ≤ 600000 from Nat.le_of_ble_eq_true rfl), (show 2593 ≤ 7302250 from Nat.le_of_ble_eq_true rfl)⟩ (fun r_1 u H locs hw hP hD hS => ?_)
  subst hw
  refine W.widen (k := 109) (n := 2593) (Nat.le_refl _) (Nat.le_refl _) ?_
  refine lv_aload_n hx hb dL_law_1599 rfl (lv_at hl 1 rfl) ?_
  refine lv_aload_n hx hb dL_law_1600 rfl (lv_at hl 3 rfl) ?_
  refine lv_iload_n hx hb dL_law_1601 rfl (lv_at hl 0 rfl) ?_
  refine lv_iconst (v := 1) hx hb dL_law_1602 (by decide) ?_
  refine lv_iadd hx hb dL_law_1603 ?_
  refine oh_nrm (v := 1) (by decide) ?_
  refine va_sld hx hb hX hbl hbA hS (show vp_in 1 8 by unfold vp_in; decide) dL_law_1604 ?_
  refine oh_nrm (v := xs 1) rfl ?_
  refine lv_aload_n hx hb dL_law_1605 rfl (lv_at hl 3 rfl) ?_
  refine lv_iload_n hx hb dL_law_1606 rfl (lv_at hl 0 rfl) ?_
  refine lv_iconst (v := 2) hx hb dL_law_1607 (by decide) ?_
  refine lv_iadd hx hb dL_law_1608 ?_
  refine oh_nrm (v := 2) (by decide) ?_
  refine va_sld hx hb hX hbl hbA hS (show vp_in 2 8 by unfold vp_in; decide) dL_law_1609 ?_
  refine oh_nrm (v := xs 2) rfl ?_
  refine lv_aload_n hx hb dL_law_1610 rfl (lv_at hl 3 rfl) ?_
  refine lv_iload_n hx hb dL_law_1611 rfl (lv_at hl 0 rfl) ?_
  refine lv_iconst (v := 3) hx hb dL_law_1612 (by decide) ?_
  refine lv_iadd hx hb dL_law_1613 ?_
  refine oh_nrm (v := 3) (by decide) ?_
  refine va_sld hx hb hX hbl hbA hS (show vp_in 3 8 by unfold vp_in; decide) dL_law_1614 ?_
  refine oh_nrm (v := xs 3) rfl ?_
  refine lv_aload_n hx hb dL_law_1615 rfl (lv_at hl 3 rfl) ?_
  refine lv_iload_n hx hb dL_law_1616 rfl (lv_at hl 0 rfl) ?_
  refine lv_iconst (v := 4) hx hb dL_law_1617 (by decide) ?_
  refine lv_iadd hx hb dL_law_1618 ?_
  refine oh_nrm (v := 4) (by decide) ?_
  refine va_sld hx hb hX hbl hbA hS (show vp_in 4 8 by unfold vp_in; decide) dL_law_1619 ?_
  refine oh_nrm (v := xs 4) rfl ?_
  refine lv_aload_n hx hb dL_law_1620 rfl (lv_at hl 3 rfl) ?_
  refine lv_iload_n hx hb dL_law_1621 rfl (lv_at hl 0 rfl) ?_
  refine lv_iconst (v := 5) hx hb dL_law_1622 (by decide) ?_
  refine lv_iadd hx hb dL_law_1623 ?_
  refine oh_nrm (v := 5) (by decide) ?_
  refine va_sld hx hb hX hbl hbA hS (show vp_in 5 8 by unfold vp_in; decide) dL_law_1624 ?_
  refine oh_nrm (v := xs 5) rfl ?_
  refine lv_aload_n hx hb dL_law_1625 rfl (lv_at hl 3 rfl) ?_
  refine lv_iload_n hx hb dL_law_1626 rfl (lv_at hl 0 rfl) ?_
  refine lv_bipush (v := 6) hx hb dL_law_1627 (by decide) ?_
  refine lv_iadd hx hb dL_law_1629 ?_
  refine oh_nrm (v := 6) (by decide) ?_
  refine va_sld hx hb hX hbl hbA hS (show vp_in 6 8 by unfold vp_in; decide) dL_law_1630 ?_
  refine oh_nrm (v := xs 6) rfl ?_
  refine oh_mV (wr := []) (As := [.int (xs 1), .int (xs 2), .int (xs 3), .int (xs 4), .int (xs 5), .int (xs 6)]) (rest := [.int (-2)]) ⟨hx, hb, hml, hown, htg⟩ (c_X7_told_ l D E G H.size (ma 0) (xs 1) (xs 2) (xs 3) (xs 4) (xs 5) (xs 6) (ma 1) (ma 2) (ma 3) (ma 4) (ma 5) (ma 6) (ma 7) (ma 8) (ma 9) (ma 10) (ma 11) (ma 12) (ma 13) (ma 14) (ma 15)) (cwV 6 htg (oh_gV q_1381 q_1382 q_1383 q_73 q_1384) rfl rfl rfl pdVX7_told_ ⟨Nat.le_of_ble_eq_true rfl, Nat.le_of_ble_eq_true rfl⟩) hK hP hD hG hS hA [0, 8] [] rfl rfl (by decide) (by decide) (by decide) (va_recv hK hP (ci := 7) (q0 := 0) rfl rfl) rfl hl.1 rfl (Nat.le_of_ble_eq_true rfl) dL_law_1631 ⟨(show 109 ≤ 600000 from Nat.le_of_ble_eq_true rfl), (show 2593 ≤ 7302250 from Nat.le_of_ble_eq_true rfl)⟩ (fun r_2 u H locs hw hP hD hS => ?_)
  subst hw
  refine W.widen (k := 109) (n := 2593) (Nat.le_refl _) (Nat.le_refl _) ?_
  refine lv_icmp_eq (tgt := 2047) hx hb dL_law_1634 (by decide) (fun _ => ?_) (fun c => absurd (show (-2 : Int32) = (-2) from by decide) c)
  exact lw_end C0 hAe hS (lv_sub hl [0, 3] rfl) (show 109 ≤ 600000 from Nat.le_of_ble_eq_true rfl) (show 2593 ≤ 7302250 from Nat.le_of_ble_eq_true rfl)
set_option maxHeartbeats 4000000 in
set_option maxRecDepth 100000 in
/-- the law at one call of reach -/
theorem lc_reach {p : Program} {e : Env} {s : State} {m : MethodId} {below : List Frame} {meth : Method} {c : Code} (l : Launch) {b : Nat} {xs : Nat → Int32} (C0 : lw_At p s m meth c b 8 xs) {D : va_G} {E : Nat → ClassId} {G : Nat → Nat} {A : Nat → Prop} (hAe : A = fun q => s.heap.size ≤ q) (hK : va_K D vwCl (oh_ty E) s) (hG : oh_G G A s) {xa ma r1 r2 r3 r4 r5 : Nat → Nat} {H : Heap} {locs : List Loc} (hP : va_P D vwCl (lw_x E xa ++ lw_m E ma r1 r2 r3 r4 r5) H) (hD : va_D A (lw_x E xa ++ lw_m E ma r1 r2 r3 r4 r5)) (hS : va_S A s.heap H locs) {ls : Array Slot} (hl : lv_has ls 4 [(3, .int 0), (2, .ref (ma 0)), (1, .ref (xa 0)), (0, .ref b)]) : W p l e room_1 s m #[Value.ref b] below meth c H locs 109 2593 (lw_Z below #[Value.ref b] s) (F0 m 1639 ls []) := by
  obtain ⟨hx, hb, hr, hml, hown, hts, hX, hbl, hlocks, hgv⟩ := id C0
  have hown : s.vm.findClass RL = some m.cls := hown
  have htg : ∀ w ∈ oh_t, w.before _ s = true := fun w h => hts w (List.mem_filter.mp h).1
  have hA : ∀ q, s.heap.size ≤ q → A q := fun q h => by rw [hAe]; exact h
  have hbA : ¬ A b := by rw [hAe]; exact Nat.not_le.mpr hbl
  refine lv_aload_n hx hb dL_law_1639 rfl (lv_at hl 2 rfl) ?_
  refine lv_aload_n hx hb dL_law_1640 rfl (lv_at hl 3 rfl) ?_
  refine lv_iload_n hx hb dL_law_1641 rfl (lv_at hl 0 rfl) ?_
  refine lv_iconst (v := 1) hx hb dL_law_1642 (by decide) ?_
  refine lv_iadd hx hb dL_law_1643 ?_
  refine oh_nrm (v := 1) (by decide) ?_
  refine va_sld hx hb hX hbl hbA hS (show vp_in 1 8 by unfold vp_in; decide) dL_law_1644 ?_
  refine oh_nrm (v := xs 1) rfl ?_
  refine lv_aload_n hx hb dL_law_1645 rfl (lv_at hl 3 rfl) ?_
  refine lv_iload_n hx hb dL_law_1646 rfl (lv_at hl 0 rfl) ?_
  refine lv_iconst (v := 2) hx hb dL_law_1647 (by decide) ?_
  refine lv_iadd hx hb dL_law_1648 ?_
  refine oh_nrm (v := 2) (by decide) ?_
  refine va_sld hx hb hX hbl hbA hS (show vp_in 2 8 by unfold vp_in; decide) dL_law_1649 ?_
  refine oh_nrm (v := xs 2) rfl ?_
  refine lv_aload_n hx hb dL_law_1650 rfl (lv_at hl 3 rfl) ?_
  refine lv_iload_n hx hb dL_law_1651 rfl (lv_at hl 0 rfl) ?_
  refine lv_iconst (v := 3) hx hb dL_law_1652 (by decide) ?_
  refine lv_iadd hx hb dL_law_1653 ?_
  refine oh_nrm (v := 3) (by decide) ?_
  refine va_sld hx hb hX hbl hbA hS (show vp_in 3 8 by unfold vp_in; decide) dL_law_1654 ?_
  refine oh_nrm (v := xs 3) rfl ?_
  refine oh_lV (wx := lw_x E xa) (wm := lw_m E ma r1 r2 r3 r4 r5) (As := [.int (xs 1), .int (xs 2), .int (xs 3)]) (rest := []) ⟨hx, hb, hml, hown, htg⟩ (c_X6_reach l D E G H.size (xa 0) (xs 1) (xs 2) (xs 3) (xa 1) (xa 9) (xa 17) (xa 24) (xa 28) (xa 30) (xa 33) (xa 34) (xa 2) (xa 3) (xa 4) (xa 5) (xa 6) (xa 7) (xa 8)) (cwV 3 htg (oh_gV q_860 q_861 q_862 q_66 q_863) rfl rfl rfl pdVX6_reach ⟨Nat.le_of_ble_eq_true rfl, Nat.le_of_ble_eq_true rfl⟩) hK hP hD hG hS hA [0, 1, 2, 33] rfl (by decide) (show ∀ i ∈ ([0, 1, 2, 33] : List Nat), i < 35 by decide) (va_recv hK hP (ci := 6) (q0 := 0) rfl rfl) rfl hl.1 rfl (Nat.le_of_ble_eq_true rfl) dL_law_1655 ⟨(show 109 ≤ 600000 from Nat.le_of_ble_eq_true rfl), (show 2593 ≤ 7302250 from Nat.le_of_ble_eq_true rfl)⟩ (fun r_1 u H locs hw hP hD hS => ?_)
  subst hw
  refine W.widen (k := 109) (n := 2593) (Nat.le_refl _) (Nat.le_refl _) ?_
  refine lv_aload_n hx hb dL_law_1658 rfl (lv_at hl 1 rfl) ?_
  refine lv_aload_n hx hb dL_law_1659 rfl (lv_at hl 3 rfl) ?_
  refine lv_iload_n hx hb dL_law_1660 rfl (lv_at hl 0 rfl) ?_
  refine lv_iconst (v := 1) hx hb dL_law_1661 (by decide) ?_
  refine lv_iadd hx hb dL_law_1662 ?_
  refine oh_nrm (v := 1) (by decide) ?_
  refine va_sld hx hb hX hbl hbA hS (show vp_in 1 8 by unfold vp_in; decide) dL_law_1663 ?_
  refine oh_nrm (v := xs 1) rfl ?_
  refine lv_aload_n hx hb dL_law_1664 rfl (lv_at hl 3 rfl) ?_
  refine lv_iload_n hx hb dL_law_1665 rfl (lv_at hl 0 rfl) ?_
  refine lv_iconst (v := 2) hx hb dL_law_1666 (by decide) ?_
  refine lv_iadd hx hb dL_law_1667 ?_
  refine oh_nrm (v := 2) (by decide) ?_
  refine va_sld hx hb hX hbl hbA hS (show vp_in 2 8 by unfold vp_in; decide) dL_law_1668 ?_
  refine oh_nrm (v := xs 2) rfl ?_
  refine lv_aload_n hx hb dL_law_1669 rfl (lv_at hl 3 rfl) ?_
  refine lv_iload_n hx hb dL_law_1670 rfl (lv_at hl 0 rfl) ?_
  refine lv_iconst (v := 3) hx hb dL_law_1671 (by decide) ?_
  refine lv_iadd hx hb dL_law_1672 ?_
  refine oh_nrm (v := 3) (by decide) ?_
  refine va_sld hx hb hX hbl hbA hS (show vp_in 3 8 by unfold vp_in; decide) dL_law_1673 ?_
  refine oh_nrm (v := xs 3) rfl ?_
  refine oh_mV (wr := []) (As := [.int (xs 1), .int (xs 2), .int (xs 3)]) (rest := [.int (-2)]) ⟨hx, hb, hml, hown, htg⟩ (c_X7_reach l D E G H.size (ma 0) (xs 1) (xs 2) (xs 3) (ma 1) (ma 2) (ma 3) (ma 4) (ma 5) (ma 6) (ma 7) (ma 8) (ma 9) (ma 10) (ma 11) (ma 12) (ma 13) (ma 14) (ma 15)) (cwV 3 htg (oh_gV q_1389 q_1390 q_1391 q_73 q_1392) rfl rfl rfl pdVX7_reach ⟨Nat.le_of_ble_eq_true rfl, Nat.le_of_ble_eq_true rfl⟩) hK hP hD hG hS hA [0, 8] [] rfl rfl (by decide) (by decide) (by decide) (va_recv hK hP (ci := 7) (q0 := 0) rfl rfl) rfl hl.1 rfl (Nat.le_of_ble_eq_true rfl) dL_law_1674 ⟨(show 109 ≤ 600000 from Nat.le_of_ble_eq_true rfl), (show 2593 ≤ 7302250 from Nat.le_of_ble_eq_true rfl)⟩ (fun r_2 u H locs hw hP hD hS => ?_)
  subst hw
  refine W.widen (k := 109) (n := 2593) (Nat.le_refl _) (Nat.le_refl _) ?_
  refine lv_icmp_eq (tgt := 2047) hx hb dL_law_1677 (by decide) (fun _ => ?_) (fun c => absurd (show (-2 : Int32) = (-2) from by decide) c)
  exact lw_end C0 hAe hS (lv_sub hl [0, 3] rfl) (show 109 ≤ 600000 from Nat.le_of_ble_eq_true rfl) (show 2593 ≤ 7302250 from Nat.le_of_ble_eq_true rfl)
set_option maxHeartbeats 4000000 in
set_option maxRecDepth 100000 in
/-- the law at one call of hang -/
theorem lc_hang {p : Program} {e : Env} {s : State} {m : MethodId} {below : List Frame} {meth : Method} {c : Code} (l : Launch) {b : Nat} {xs : Nat → Int32} (C0 : lw_At p s m meth c b 8 xs) {D : va_G} {E : Nat → ClassId} {G : Nat → Nat} {A : Nat → Prop} (hAe : A = fun q => s.heap.size ≤ q) (hK : va_K D vwCl (oh_ty E) s) (hG : oh_G G A s) {xa ma r1 r2 r3 r4 r5 : Nat → Nat} {H : Heap} {locs : List Loc} (hP : va_P D vwCl (lw_x E xa ++ lw_m E ma r1 r2 r3 r4 r5) H) (hD : va_D A (lw_x E xa ++ lw_m E ma r1 r2 r3 r4 r5)) (hS : va_S A s.heap H locs) {ls : Array Slot} (hl : lv_has ls 4 [(3, .int 0), (2, .ref (ma 0)), (1, .ref (xa 0)), (0, .ref b)]) : W p l e room_1 s m #[Value.ref b] below meth c H locs 109 2593 (lw_Z below #[Value.ref b] s) (F0 m 1682 ls []) := by
  obtain ⟨hx, hb, hr, hml, hown, hts, hX, hbl, hlocks, hgv⟩ := id C0
  have hown : s.vm.findClass RL = some m.cls := hown
  have htg : ∀ w ∈ oh_t, w.before _ s = true := fun w h => hts w (List.mem_filter.mp h).1
  have hA : ∀ q, s.heap.size ≤ q → A q := fun q h => by rw [hAe]; exact h
  have hbA : ¬ A b := by rw [hAe]; exact Nat.not_le.mpr hbl
  refine lv_aload_n hx hb dL_law_1682 rfl (lv_at hl 2 rfl) ?_
  refine lv_aload_n hx hb dL_law_1683 rfl (lv_at hl 3 rfl) ?_
  refine lv_iload_n hx hb dL_law_1684 rfl (lv_at hl 0 rfl) ?_
  refine lv_iconst (v := 1) hx hb dL_law_1685 (by decide) ?_
  refine lv_iadd hx hb dL_law_1686 ?_
  refine oh_nrm (v := 1) (by decide) ?_
  refine va_sld hx hb hX hbl hbA hS (show vp_in 1 8 by unfold vp_in; decide) dL_law_1687 ?_
  refine oh_nrm (v := xs 1) rfl ?_
  refine lv_aload_n hx hb dL_law_1688 rfl (lv_at hl 3 rfl) ?_
  refine lv_iload_n hx hb dL_law_1689 rfl (lv_at hl 0 rfl) ?_
  refine lv_iconst (v := 2) hx hb dL_law_1690 (by decide) ?_
  refine lv_iadd hx hb dL_law_1691 ?_
  refine oh_nrm (v := 2) (by decide) ?_
  refine va_sld hx hb hX hbl hbA hS (show vp_in 2 8 by unfold vp_in; decide) dL_law_1692 ?_
  refine oh_nrm (v := xs 2) rfl ?_
  refine lv_aload_n hx hb dL_law_1693 rfl (lv_at hl 3 rfl) ?_
  refine lv_iload_n hx hb dL_law_1694 rfl (lv_at hl 0 rfl) ?_
  refine lv_iconst (v := 3) hx hb dL_law_1695 (by decide) ?_
  refine lv_iadd hx hb dL_law_1696 ?_
  refine oh_nrm (v := 3) (by decide) ?_
  refine va_sld hx hb hX hbl hbA hS (show vp_in 3 8 by unfold vp_in; decide) dL_law_1697 ?_
  refine oh_nrm (v := xs 3) rfl ?_
  refine lv_aload_n hx hb dL_law_1698 rfl (lv_at hl 3 rfl) ?_
  refine lv_iload_n hx hb dL_law_1699 rfl (lv_at hl 0 rfl) ?_
  refine lv_iconst (v := 4) hx hb dL_law_1700 (by decide) ?_
  refine lv_iadd hx hb dL_law_1701 ?_
  refine oh_nrm (v := 4) (by decide) ?_
  refine va_sld hx hb hX hbl hbA hS (show vp_in 4 8 by unfold vp_in; decide) dL_law_1702 ?_
  refine oh_nrm (v := xs 4) rfl ?_
  refine oh_lV (wx := lw_x E xa) (wm := lw_m E ma r1 r2 r3 r4 r5) (As := [.int (xs 1), .int (xs 2), .int (xs 3), .int (xs 4)]) (rest := []) ⟨hx, hb, hml, hown, htg⟩ (c_X6_hang l D E G H.size (xa 0) (xs 1) (xs 2) (xs 3) (xs 4) (xa 1) (xa 9) (xa 17) (xa 24) (xa 28) (xa 30) (xa 33) (xa 34) (xa 2) (xa 3) (xa 4) (xa 5) (xa 6) (xa 7) (xa 8)) (cwV 4 htg (oh_gV q_868 q_869 q_870 q_66 q_871) rfl rfl rfl pdVX6_hang ⟨Nat.le_of_ble_eq_true rfl, Nat.le_of_ble_eq_true rfl⟩) hK hP hD hG hS hA [0, 1, 2, 33] rfl (by decide) (show ∀ i ∈ ([0, 1, 2, 33] : List Nat), i < 35 by decide) (va_recv hK hP (ci := 6) (q0 := 0) rfl rfl) rfl hl.1 rfl (Nat.le_of_ble_eq_true rfl) dL_law_1703 ⟨(show 109 ≤ 600000 from Nat.le_of_ble_eq_true rfl), (show 2593 ≤ 7302250 from Nat.le_of_ble_eq_true rfl)⟩ (fun r_1 u H locs hw hP hD hS => ?_)
  subst hw
  refine W.widen (k := 109) (n := 2593) (Nat.le_refl _) (Nat.le_refl _) ?_
  refine lv_aload_n hx hb dL_law_1706 rfl (lv_at hl 1 rfl) ?_
  refine lv_aload_n hx hb dL_law_1707 rfl (lv_at hl 3 rfl) ?_
  refine lv_iload_n hx hb dL_law_1708 rfl (lv_at hl 0 rfl) ?_
  refine lv_iconst (v := 1) hx hb dL_law_1709 (by decide) ?_
  refine lv_iadd hx hb dL_law_1710 ?_
  refine oh_nrm (v := 1) (by decide) ?_
  refine va_sld hx hb hX hbl hbA hS (show vp_in 1 8 by unfold vp_in; decide) dL_law_1711 ?_
  refine oh_nrm (v := xs 1) rfl ?_
  refine lv_aload_n hx hb dL_law_1712 rfl (lv_at hl 3 rfl) ?_
  refine lv_iload_n hx hb dL_law_1713 rfl (lv_at hl 0 rfl) ?_
  refine lv_iconst (v := 2) hx hb dL_law_1714 (by decide) ?_
  refine lv_iadd hx hb dL_law_1715 ?_
  refine oh_nrm (v := 2) (by decide) ?_
  refine va_sld hx hb hX hbl hbA hS (show vp_in 2 8 by unfold vp_in; decide) dL_law_1716 ?_
  refine oh_nrm (v := xs 2) rfl ?_
  refine lv_aload_n hx hb dL_law_1717 rfl (lv_at hl 3 rfl) ?_
  refine lv_iload_n hx hb dL_law_1718 rfl (lv_at hl 0 rfl) ?_
  refine lv_iconst (v := 3) hx hb dL_law_1719 (by decide) ?_
  refine lv_iadd hx hb dL_law_1720 ?_
  refine oh_nrm (v := 3) (by decide) ?_
  refine va_sld hx hb hX hbl hbA hS (show vp_in 3 8 by unfold vp_in; decide) dL_law_1721 ?_
  refine oh_nrm (v := xs 3) rfl ?_
  refine lv_aload_n hx hb dL_law_1722 rfl (lv_at hl 3 rfl) ?_
  refine lv_iload_n hx hb dL_law_1723 rfl (lv_at hl 0 rfl) ?_
  refine lv_iconst (v := 4) hx hb dL_law_1724 (by decide) ?_
  refine lv_iadd hx hb dL_law_1725 ?_
  refine oh_nrm (v := 4) (by decide) ?_
  refine va_sld hx hb hX hbl hbA hS (show vp_in 4 8 by unfold vp_in; decide) dL_law_1726 ?_
  refine oh_nrm (v := xs 4) rfl ?_
  refine oh_mV (wr := []) (As := [.int (xs 1), .int (xs 2), .int (xs 3), .int (xs 4)]) (rest := [.int (-2)]) ⟨hx, hb, hml, hown, htg⟩ (c_X7_hang l D E G H.size (ma 0) (xs 1) (xs 2) (xs 3) (xs 4) (ma 1) (ma 2) (ma 3) (ma 4) (ma 5) (ma 6) (ma 7) (ma 8) (ma 9) (ma 10) (ma 11) (ma 12) (ma 13) (ma 14) (ma 15)) (cwV 4 htg (oh_gV q_1393 q_1394 q_1395 q_73 q_1396) rfl rfl rfl pdVX7_hang ⟨Nat.le_of_ble_eq_true rfl, Nat.le_of_ble_eq_true rfl⟩) hK hP hD hG hS hA [0, 8] [] rfl rfl (by decide) (by decide) (by decide) (va_recv hK hP (ci := 7) (q0 := 0) rfl rfl) rfl hl.1 rfl (Nat.le_of_ble_eq_true rfl) dL_law_1727 ⟨(show 109 ≤ 600000 from Nat.le_of_ble_eq_true rfl), (show 2593 ≤ 7302250 from Nat.le_of_ble_eq_true rfl)⟩ (fun r_2 u H locs hw hP hD hS => ?_)
  subst hw
  refine W.widen (k := 109) (n := 2593) (Nat.le_refl _) (Nat.le_refl _) ?_
  refine lv_icmp_eq (tgt := 2047) hx hb dL_law_1730 (by decide) (fun _ => ?_) (fun c => absurd (show (-2 : Int32) = (-2) from by decide) c)
  exact lw_end C0 hAe hS (lv_sub hl [0, 3] rfl) (show 109 ≤ 600000 from Nat.le_of_ble_eq_true rfl) (show 2593 ≤ 7302250 from Nat.le_of_ble_eq_true rfl)
set_option maxHeartbeats 4000000 in
set_option maxRecDepth 100000 in
/-- the law at one call of fewest -/
theorem lc_fewest {p : Program} {e : Env} {s : State} {m : MethodId} {below : List Frame} {meth : Method} {c : Code} (l : Launch) {b : Nat} {xs : Nat → Int32} (C0 : lw_At p s m meth c b 8 xs) {D : va_G} {E : Nat → ClassId} {G : Nat → Nat} {A : Nat → Prop} (hAe : A = fun q => s.heap.size ≤ q) (hK : va_K D vwCl (oh_ty E) s) (hG : oh_G G A s) {xa ma r1 r2 r3 r4 r5 : Nat → Nat} {H : Heap} {locs : List Loc} (hP : va_P D vwCl (lw_x E xa ++ lw_m E ma r1 r2 r3 r4 r5) H) (hD : va_D A (lw_x E xa ++ lw_m E ma r1 r2 r3 r4 r5)) (hS : va_S A s.heap H locs) {ls : Array Slot} (hl : lv_has ls 4 [(3, .int 0), (2, .ref (ma 0)), (1, .ref (xa 0)), (0, .ref b)]) : W p l e room_1 s m #[Value.ref b] below meth c H locs 109 2593 (lw_Z below #[Value.ref b] s) (F0 m 1735 ls []) := by
  obtain ⟨hx, hb, hr, hml, hown, hts, hX, hbl, hlocks, hgv⟩ := id C0
  have hown : s.vm.findClass RL = some m.cls := hown
  have htg : ∀ w ∈ oh_t, w.before _ s = true := fun w h => hts w (List.mem_filter.mp h).1
  have hA : ∀ q, s.heap.size ≤ q → A q := fun q h => by rw [hAe]; exact h
  have hbA : ¬ A b := by rw [hAe]; exact Nat.not_le.mpr hbl
  refine lv_aload_n hx hb dL_law_1735 rfl (lv_at hl 2 rfl) ?_
  refine lv_aload_n hx hb dL_law_1736 rfl (lv_at hl 3 rfl) ?_
  refine lv_iload_n hx hb dL_law_1737 rfl (lv_at hl 0 rfl) ?_
  refine lv_iconst (v := 1) hx hb dL_law_1738 (by decide) ?_
  refine lv_iadd hx hb dL_law_1739 ?_
  refine oh_nrm (v := 1) (by decide) ?_
  refine va_sld hx hb hX hbl hbA hS (show vp_in 1 8 by unfold vp_in; decide) dL_law_1740 ?_
  refine oh_nrm (v := xs 1) rfl ?_
  refine lv_aload_n hx hb dL_law_1741 rfl (lv_at hl 3 rfl) ?_
  refine lv_iload_n hx hb dL_law_1742 rfl (lv_at hl 0 rfl) ?_
  refine lv_iconst (v := 2) hx hb dL_law_1743 (by decide) ?_
  refine lv_iadd hx hb dL_law_1744 ?_
  refine oh_nrm (v := 2) (by decide) ?_
  refine va_sld hx hb hX hbl hbA hS (show vp_in 2 8 by unfold vp_in; decide) dL_law_1745 ?_
  refine oh_nrm (v := xs 2) rfl ?_
  refine lv_aload_n hx hb dL_law_1746 rfl (lv_at hl 3 rfl) ?_
  refine lv_iload_n hx hb dL_law_1747 rfl (lv_at hl 0 rfl) ?_
  refine lv_iconst (v := 3) hx hb dL_law_1748 (by decide) ?_
  refine lv_iadd hx hb dL_law_1749 ?_
  refine oh_nrm (v := 3) (by decide) ?_
  refine va_sld hx hb hX hbl hbA hS (show vp_in 3 8 by unfold vp_in; decide) dL_law_1750 ?_
  refine oh_nrm (v := xs 3) rfl ?_
  refine oh_lV (wx := lw_x E xa) (wm := lw_m E ma r1 r2 r3 r4 r5) (As := [.int (xs 1), .int (xs 2), .int (xs 3)]) (rest := []) ⟨hx, hb, hml, hown, htg⟩ (c_X6_fewest l D E G H.size (xa 0) (xs 1) (xs 2) (xs 3) (xa 1) (xa 9) (xa 17) (xa 24) (xa 28) (xa 30) (xa 33) (xa 34) (xa 2) (xa 3) (xa 4) (xa 5) (xa 6) (xa 7) (xa 8)) (cwV 3 htg (oh_gV q_876 q_877 q_878 q_66 q_879) rfl rfl rfl pdVX6_fewest ⟨Nat.le_of_ble_eq_true rfl, Nat.le_of_ble_eq_true rfl⟩) hK hP hD hG hS hA [0, 1, 2, 33] rfl (by decide) (show ∀ i ∈ ([0, 1, 2, 33] : List Nat), i < 35 by decide) (va_recv hK hP (ci := 6) (q0 := 0) rfl rfl) rfl hl.1 rfl (Nat.le_of_ble_eq_true rfl) dL_law_1751 ⟨(show 109 ≤ 600000 from Nat.le_of_ble_eq_true rfl), (show 2593 ≤ 7302250 from Nat.le_of_ble_eq_true rfl)⟩ (fun r_1 u H locs hw hP hD hS => ?_)
  subst hw
  refine W.widen (k := 109) (n := 2593) (Nat.le_refl _) (Nat.le_refl _) ?_
  refine lv_aload_n hx hb dL_law_1754 rfl (lv_at hl 1 rfl) ?_
  refine lv_aload_n hx hb dL_law_1755 rfl (lv_at hl 3 rfl) ?_
  refine lv_iload_n hx hb dL_law_1756 rfl (lv_at hl 0 rfl) ?_
  refine lv_iconst (v := 1) hx hb dL_law_1757 (by decide) ?_
  refine lv_iadd hx hb dL_law_1758 ?_
  refine oh_nrm (v := 1) (by decide) ?_
  refine va_sld hx hb hX hbl hbA hS (show vp_in 1 8 by unfold vp_in; decide) dL_law_1759 ?_
  refine oh_nrm (v := xs 1) rfl ?_
  refine lv_aload_n hx hb dL_law_1760 rfl (lv_at hl 3 rfl) ?_
  refine lv_iload_n hx hb dL_law_1761 rfl (lv_at hl 0 rfl) ?_
  refine lv_iconst (v := 2) hx hb dL_law_1762 (by decide) ?_
  refine lv_iadd hx hb dL_law_1763 ?_
  refine oh_nrm (v := 2) (by decide) ?_
  refine va_sld hx hb hX hbl hbA hS (show vp_in 2 8 by unfold vp_in; decide) dL_law_1764 ?_
  refine oh_nrm (v := xs 2) rfl ?_
  refine lv_aload_n hx hb dL_law_1765 rfl (lv_at hl 3 rfl) ?_
  refine lv_iload_n hx hb dL_law_1766 rfl (lv_at hl 0 rfl) ?_
  refine lv_iconst (v := 3) hx hb dL_law_1767 (by decide) ?_
  refine lv_iadd hx hb dL_law_1768 ?_
  refine oh_nrm (v := 3) (by decide) ?_
  refine va_sld hx hb hX hbl hbA hS (show vp_in 3 8 by unfold vp_in; decide) dL_law_1769 ?_
  refine oh_nrm (v := xs 3) rfl ?_
  refine oh_mV (wr := []) (As := [.int (xs 1), .int (xs 2), .int (xs 3)]) (rest := [.int (-2)]) ⟨hx, hb, hml, hown, htg⟩ (c_X7_fewest l D E G H.size (ma 0) (xs 1) (xs 2) (xs 3) (ma 1) (ma 2) (ma 3) (ma 4) (ma 5) (ma 6) (ma 7) (ma 8) (ma 9) (ma 10) (ma 11) (ma 12) (ma 13) (ma 14) (ma 15)) (cwV 3 htg (oh_gV q_1397 q_1398 q_1399 q_73 q_1400) rfl rfl rfl pdVX7_fewest ⟨Nat.le_of_ble_eq_true rfl, Nat.le_of_ble_eq_true rfl⟩) hK hP hD hG hS hA [0, 8] [] rfl rfl (by decide) (by decide) (by decide) (va_recv hK hP (ci := 7) (q0 := 0) rfl rfl) rfl hl.1 rfl (Nat.le_of_ble_eq_true rfl) dL_law_1770 ⟨(show 109 ≤ 600000 from Nat.le_of_ble_eq_true rfl), (show 2593 ≤ 7302250 from Nat.le_of_ble_eq_true rfl)⟩ (fun r_2 u H locs hw hP hD hS => ?_)
  subst hw
  refine W.widen (k := 109) (n := 2593) (Nat.le_refl _) (Nat.le_refl _) ?_
  refine lv_icmp_eq (tgt := 2047) hx hb dL_law_1773 (by decide) (fun _ => ?_) (fun c => absurd (show (-2 : Int32) = (-2) from by decide) c)
  exact lw_end C0 hAe hS (lv_sub hl [0, 3] rfl) (show 109 ≤ 600000 from Nat.le_of_ble_eq_true rfl) (show 2593 ≤ 7302250 from Nat.le_of_ble_eq_true rfl)
set_option maxHeartbeats 4000000 in
set_option maxRecDepth 100000 in
/-- the law at one call of most -/
theorem lc_most {p : Program} {e : Env} {s : State} {m : MethodId} {below : List Frame} {meth : Method} {c : Code} (l : Launch) {b : Nat} {xs : Nat → Int32} (C0 : lw_At p s m meth c b 8 xs) {D : va_G} {E : Nat → ClassId} {G : Nat → Nat} {A : Nat → Prop} (hAe : A = fun q => s.heap.size ≤ q) (hK : va_K D vwCl (oh_ty E) s) (hG : oh_G G A s) {xa ma r1 r2 r3 r4 r5 : Nat → Nat} {H : Heap} {locs : List Loc} (hP : va_P D vwCl (lw_x E xa ++ lw_m E ma r1 r2 r3 r4 r5) H) (hD : va_D A (lw_x E xa ++ lw_m E ma r1 r2 r3 r4 r5)) (hS : va_S A s.heap H locs) {ls : Array Slot} (hl : lv_has ls 4 [(3, .int 0), (2, .ref (ma 0)), (1, .ref (xa 0)), (0, .ref b)]) : W p l e room_1 s m #[Value.ref b] below meth c H locs 109 2593 (lw_Z below #[Value.ref b] s) (F0 m 1778 ls []) := by
  obtain ⟨hx, hb, hr, hml, hown, hts, hX, hbl, hlocks, hgv⟩ := id C0
  have hown : s.vm.findClass RL = some m.cls := hown
  have htg : ∀ w ∈ oh_t, w.before _ s = true := fun w h => hts w (List.mem_filter.mp h).1
  have hA : ∀ q, s.heap.size ≤ q → A q := fun q h => by rw [hAe]; exact h
  have hbA : ¬ A b := by rw [hAe]; exact Nat.not_le.mpr hbl
  refine lv_aload_n hx hb dL_law_1778 rfl (lv_at hl 2 rfl) ?_
  refine lv_aload_n hx hb dL_law_1779 rfl (lv_at hl 3 rfl) ?_
  refine lv_iload_n hx hb dL_law_1780 rfl (lv_at hl 0 rfl) ?_
  refine lv_iconst (v := 1) hx hb dL_law_1781 (by decide) ?_
  refine lv_iadd hx hb dL_law_1782 ?_
  refine oh_nrm (v := 1) (by decide) ?_
  refine va_sld hx hb hX hbl hbA hS (show vp_in 1 8 by unfold vp_in; decide) dL_law_1783 ?_
  refine oh_nrm (v := xs 1) rfl ?_
  refine lv_aload_n hx hb dL_law_1784 rfl (lv_at hl 3 rfl) ?_
  refine lv_iload_n hx hb dL_law_1785 rfl (lv_at hl 0 rfl) ?_
  refine lv_iconst (v := 2) hx hb dL_law_1786 (by decide) ?_
  refine lv_iadd hx hb dL_law_1787 ?_
  refine oh_nrm (v := 2) (by decide) ?_
  refine va_sld hx hb hX hbl hbA hS (show vp_in 2 8 by unfold vp_in; decide) dL_law_1788 ?_
  refine oh_nrm (v := xs 2) rfl ?_
  refine lv_aload_n hx hb dL_law_1789 rfl (lv_at hl 3 rfl) ?_
  refine lv_iload_n hx hb dL_law_1790 rfl (lv_at hl 0 rfl) ?_
  refine lv_iconst (v := 3) hx hb dL_law_1791 (by decide) ?_
  refine lv_iadd hx hb dL_law_1792 ?_
  refine oh_nrm (v := 3) (by decide) ?_
  refine va_sld hx hb hX hbl hbA hS (show vp_in 3 8 by unfold vp_in; decide) dL_law_1793 ?_
  refine oh_nrm (v := xs 3) rfl ?_
  refine oh_lV (wx := lw_x E xa) (wm := lw_m E ma r1 r2 r3 r4 r5) (As := [.int (xs 1), .int (xs 2), .int (xs 3)]) (rest := []) ⟨hx, hb, hml, hown, htg⟩ (c_X6_most l D E G H.size (xa 0) (xs 1) (xs 2) (xs 3) (xa 1) (xa 9) (xa 17) (xa 24) (xa 28) (xa 30) (xa 33) (xa 34) (xa 2) (xa 3) (xa 4) (xa 5) (xa 6) (xa 7) (xa 8)) (cwV 3 htg (oh_gV q_885 q_886 q_887 q_66 q_888) rfl rfl rfl pdVX6_most ⟨Nat.le_of_ble_eq_true rfl, Nat.le_of_ble_eq_true rfl⟩) hK hP hD hG hS hA [0, 1, 2, 33] rfl (by decide) (show ∀ i ∈ ([0, 1, 2, 33] : List Nat), i < 35 by decide) (va_recv hK hP (ci := 6) (q0 := 0) rfl rfl) rfl hl.1 rfl (Nat.le_of_ble_eq_true rfl) dL_law_1794 ⟨(show 109 ≤ 600000 from Nat.le_of_ble_eq_true rfl), (show 2593 ≤ 7302250 from Nat.le_of_ble_eq_true rfl)⟩ (fun r_1 u H locs hw hP hD hS => ?_)
  subst hw
  refine W.widen (k := 109) (n := 2593) (Nat.le_refl _) (Nat.le_refl _) ?_
  refine lv_aload_n hx hb dL_law_1797 rfl (lv_at hl 1 rfl) ?_
  refine lv_aload_n hx hb dL_law_1798 rfl (lv_at hl 3 rfl) ?_
  refine lv_iload_n hx hb dL_law_1799 rfl (lv_at hl 0 rfl) ?_
  refine lv_iconst (v := 1) hx hb dL_law_1800 (by decide) ?_
  refine lv_iadd hx hb dL_law_1801 ?_
  refine oh_nrm (v := 1) (by decide) ?_
  refine va_sld hx hb hX hbl hbA hS (show vp_in 1 8 by unfold vp_in; decide) dL_law_1802 ?_
  refine oh_nrm (v := xs 1) rfl ?_
  refine lv_aload_n hx hb dL_law_1803 rfl (lv_at hl 3 rfl) ?_
  refine lv_iload_n hx hb dL_law_1804 rfl (lv_at hl 0 rfl) ?_
  refine lv_iconst (v := 2) hx hb dL_law_1805 (by decide) ?_
  refine lv_iadd hx hb dL_law_1806 ?_
  refine oh_nrm (v := 2) (by decide) ?_
  refine va_sld hx hb hX hbl hbA hS (show vp_in 2 8 by unfold vp_in; decide) dL_law_1807 ?_
  refine oh_nrm (v := xs 2) rfl ?_
  refine lv_aload_n hx hb dL_law_1808 rfl (lv_at hl 3 rfl) ?_
  refine lv_iload_n hx hb dL_law_1809 rfl (lv_at hl 0 rfl) ?_
  refine lv_iconst (v := 3) hx hb dL_law_1810 (by decide) ?_
  refine lv_iadd hx hb dL_law_1811 ?_
  refine oh_nrm (v := 3) (by decide) ?_
  refine va_sld hx hb hX hbl hbA hS (show vp_in 3 8 by unfold vp_in; decide) dL_law_1812 ?_
  refine oh_nrm (v := xs 3) rfl ?_
  refine oh_mV (wr := []) (As := [.int (xs 1), .int (xs 2), .int (xs 3)]) (rest := [.int (-2)]) ⟨hx, hb, hml, hown, htg⟩ (c_X7_most l D E G H.size (ma 0) (xs 1) (xs 2) (xs 3) (ma 1) (ma 2) (ma 3) (ma 4) (ma 5) (ma 6) (ma 7) (ma 8) (ma 9) (ma 10) (ma 11) (ma 12) (ma 13) (ma 14) (ma 15)) (cwV 3 htg (oh_gV q_1401 q_1402 q_1403 q_73 q_1404) rfl rfl rfl pdVX7_most ⟨Nat.le_of_ble_eq_true rfl, Nat.le_of_ble_eq_true rfl⟩) hK hP hD hG hS hA [0, 8] [] rfl rfl (by decide) (by decide) (by decide) (va_recv hK hP (ci := 7) (q0 := 0) rfl rfl) rfl hl.1 rfl (Nat.le_of_ble_eq_true rfl) dL_law_1813 ⟨(show 109 ≤ 600000 from Nat.le_of_ble_eq_true rfl), (show 2593 ≤ 7302250 from Nat.le_of_ble_eq_true rfl)⟩ (fun r_2 u H locs hw hP hD hS => ?_)
  subst hw
  refine W.widen (k := 109) (n := 2593) (Nat.le_refl _) (Nat.le_refl _) ?_
  refine lv_icmp_eq (tgt := 2047) hx hb dL_law_1816 (by decide) (fun _ => ?_) (fun c => absurd (show (-2 : Int32) = (-2) from by decide) c)
  exact lw_end C0 hAe hS (lv_sub hl [0, 3] rfl) (show 109 ≤ 600000 from Nat.le_of_ble_eq_true rfl) (show 2593 ≤ 7302250 from Nat.le_of_ble_eq_true rfl)
set_option maxHeartbeats 4000000 in
set_option maxRecDepth 100000 in
/-- the law at one call of frost -/
theorem lc_frost {p : Program} {e : Env} {s : State} {m : MethodId} {below : List Frame} {meth : Method} {c : Code} (l : Launch) {b : Nat} {xs : Nat → Int32} (C0 : lw_At p s m meth c b 8 xs) {D : va_G} {E : Nat → ClassId} {G : Nat → Nat} {A : Nat → Prop} (hAe : A = fun q => s.heap.size ≤ q) (hK : va_K D vwCl (oh_ty E) s) (hG : oh_G G A s) {xa ma r1 r2 r3 r4 r5 : Nat → Nat} {H : Heap} {locs : List Loc} (hP : va_P D vwCl (lw_x E xa ++ lw_m E ma r1 r2 r3 r4 r5) H) (hD : va_D A (lw_x E xa ++ lw_m E ma r1 r2 r3 r4 r5)) (hS : va_S A s.heap H locs) {ls : Array Slot} (hl : lv_has ls 4 [(3, .int 0), (2, .ref (ma 0)), (1, .ref (xa 0)), (0, .ref b)]) : W p l e room_1 s m #[Value.ref b] below meth c H locs 109 2593 (lw_Z below #[Value.ref b] s) (F0 m 1821 ls []) := by
  obtain ⟨hx, hb, hr, hml, hown, hts, hX, hbl, hlocks, hgv⟩ := id C0
  have hown : s.vm.findClass RL = some m.cls := hown
  have htg : ∀ w ∈ oh_t, w.before _ s = true := fun w h => hts w (List.mem_filter.mp h).1
  have hA : ∀ q, s.heap.size ≤ q → A q := fun q h => by rw [hAe]; exact h
  have hbA : ¬ A b := by rw [hAe]; exact Nat.not_le.mpr hbl
  refine lv_aload_n hx hb dL_law_1821 rfl (lv_at hl 2 rfl) ?_
  refine lv_aload_n hx hb dL_law_1822 rfl (lv_at hl 3 rfl) ?_
  refine lv_iload_n hx hb dL_law_1823 rfl (lv_at hl 0 rfl) ?_
  refine lv_iconst (v := 1) hx hb dL_law_1824 (by decide) ?_
  refine lv_iadd hx hb dL_law_1825 ?_
  refine oh_nrm (v := 1) (by decide) ?_
  refine va_sld hx hb hX hbl hbA hS (show vp_in 1 8 by unfold vp_in; decide) dL_law_1826 ?_
  refine oh_nrm (v := xs 1) rfl ?_
  refine lv_aload_n hx hb dL_law_1827 rfl (lv_at hl 3 rfl) ?_
  refine lv_iload_n hx hb dL_law_1828 rfl (lv_at hl 0 rfl) ?_
  refine lv_iconst (v := 2) hx hb dL_law_1829 (by decide) ?_
  refine lv_iadd hx hb dL_law_1830 ?_
  refine oh_nrm (v := 2) (by decide) ?_
  refine va_sld hx hb hX hbl hbA hS (show vp_in 2 8 by unfold vp_in; decide) dL_law_1831 ?_
  refine oh_nrm (v := xs 2) rfl ?_
  refine lv_aload_n hx hb dL_law_1832 rfl (lv_at hl 3 rfl) ?_
  refine lv_iload_n hx hb dL_law_1833 rfl (lv_at hl 0 rfl) ?_
  refine lv_iconst (v := 3) hx hb dL_law_1834 (by decide) ?_
  refine lv_iadd hx hb dL_law_1835 ?_
  refine oh_nrm (v := 3) (by decide) ?_
  refine va_sld hx hb hX hbl hbA hS (show vp_in 3 8 by unfold vp_in; decide) dL_law_1836 ?_
  refine oh_nrm (v := xs 3) rfl ?_
  refine lv_aload_n hx hb dL_law_1837 rfl (lv_at hl 3 rfl) ?_
  refine lv_iload_n hx hb dL_law_1838 rfl (lv_at hl 0 rfl) ?_
  refine lv_iconst (v := 4) hx hb dL_law_1839 (by decide) ?_
  refine lv_iadd hx hb dL_law_1840 ?_
  refine oh_nrm (v := 4) (by decide) ?_
  refine va_sld hx hb hX hbl hbA hS (show vp_in 4 8 by unfold vp_in; decide) dL_law_1841 ?_
  refine oh_nrm (v := xs 4) rfl ?_
  refine lv_aload_n hx hb dL_law_1842 rfl (lv_at hl 3 rfl) ?_
  refine lv_iload_n hx hb dL_law_1843 rfl (lv_at hl 0 rfl) ?_
  refine lv_iconst (v := 5) hx hb dL_law_1844 (by decide) ?_
  refine lv_iadd hx hb dL_law_1845 ?_
  refine oh_nrm (v := 5) (by decide) ?_
  refine va_sld hx hb hX hbl hbA hS (show vp_in 5 8 by unfold vp_in; decide) dL_law_1846 ?_
  refine oh_nrm (v := xs 5) rfl ?_
  refine lv_aload_n hx hb dL_law_1847 rfl (lv_at hl 3 rfl) ?_
  refine lv_iload_n hx hb dL_law_1848 rfl (lv_at hl 0 rfl) ?_
  refine lv_bipush (v := 6) hx hb dL_law_1849 (by decide) ?_
  refine lv_iadd hx hb dL_law_1851 ?_
  refine oh_nrm (v := 6) (by decide) ?_
  refine va_sld hx hb hX hbl hbA hS (show vp_in 6 8 by unfold vp_in; decide) dL_law_1852 ?_
  refine oh_nrm (v := xs 6) rfl ?_
  refine lv_aload_n hx hb dL_law_1853 rfl (lv_at hl 3 rfl) ?_
  refine lv_iload_n hx hb dL_law_1854 rfl (lv_at hl 0 rfl) ?_
  refine lv_bipush (v := 7) hx hb dL_law_1855 (by decide) ?_
  refine lv_iadd hx hb dL_law_1857 ?_
  refine oh_nrm (v := 7) (by decide) ?_
  refine va_sld hx hb hX hbl hbA hS (show vp_in 7 8 by unfold vp_in; decide) dL_law_1858 ?_
  refine oh_nrm (v := xs 7) rfl ?_
  refine oh_lVl (wx := lw_x E xa) (wm := lw_m E ma r1 r2 r3 r4 r5) (As := [.int (xs 1), .int (xs 2), .int (xs 3), .int (xs 4), .int (xs 5), .int (xs 6), .int (xs 7)]) (rest := []) ⟨hx, hb, hml, hown, htg⟩ (c_X6_frost l D E G H.size (xa 0) (xs 1) (xs 2) (xs 3) (xs 4) (xs 5) (xs 6) (xs 7) (xa 1) (xa 9) (xa 17) (xa 24) (xa 28) (xa 30) (xa 33) (xa 34) (xa 2) (xa 3) (xa 4) (xa 5) (xa 6) (xa 7) (xa 8)) (cwV 7 htg (oh_gV q_893 q_894 q_895 q_66 q_896) rfl rfl rfl pdVX6_frost ⟨Nat.le_of_ble_eq_true rfl, Nat.le_of_ble_eq_true rfl⟩) hK hP hD hG hS hA [0, 1, 2, 33] rfl (by decide) (show ∀ i ∈ ([0, 1, 2, 33] : List Nat), i < 35 by decide) (va_recv hK hP (ci := 6) (q0 := 0) rfl rfl) rfl hl.1 rfl (Nat.le_of_ble_eq_true rfl) dL_law_1859 ⟨(show 109 ≤ 600000 from Nat.le_of_ble_eq_true rfl), (show 2593 ≤ 7302250 from Nat.le_of_ble_eq_true rfl)⟩ (fun r_1 u H locs hw hP hD hS => ?_)
  subst hw
  refine W.widen (k := 109) (n := 2593) (Nat.le_refl _) (Nat.le_refl _) ?_
  refine lv_aload_n hx hb dL_law_1862 rfl (lv_at hl 1 rfl) ?_
  refine lv_aload_n hx hb dL_law_1863 rfl (lv_at hl 3 rfl) ?_
  refine lv_iload_n hx hb dL_law_1864 rfl (lv_at hl 0 rfl) ?_
  refine lv_iconst (v := 1) hx hb dL_law_1865 (by decide) ?_
  refine lv_iadd hx hb dL_law_1866 ?_
  refine oh_nrm (v := 1) (by decide) ?_
  refine va_sld hx hb hX hbl hbA hS (show vp_in 1 8 by unfold vp_in; decide) dL_law_1867 ?_
  refine oh_nrm (v := xs 1) rfl ?_
  refine lv_aload_n hx hb dL_law_1868 rfl (lv_at hl 3 rfl) ?_
  refine lv_iload_n hx hb dL_law_1869 rfl (lv_at hl 0 rfl) ?_
  refine lv_iconst (v := 2) hx hb dL_law_1870 (by decide) ?_
  refine lv_iadd hx hb dL_law_1871 ?_
  refine oh_nrm (v := 2) (by decide) ?_
  refine va_sld hx hb hX hbl hbA hS (show vp_in 2 8 by unfold vp_in; decide) dL_law_1872 ?_
  refine oh_nrm (v := xs 2) rfl ?_
  refine lv_aload_n hx hb dL_law_1873 rfl (lv_at hl 3 rfl) ?_
  refine lv_iload_n hx hb dL_law_1874 rfl (lv_at hl 0 rfl) ?_
  refine lv_iconst (v := 3) hx hb dL_law_1875 (by decide) ?_
  refine lv_iadd hx hb dL_law_1876 ?_
  refine oh_nrm (v := 3) (by decide) ?_
  refine va_sld hx hb hX hbl hbA hS (show vp_in 3 8 by unfold vp_in; decide) dL_law_1877 ?_
  refine oh_nrm (v := xs 3) rfl ?_
  refine lv_aload_n hx hb dL_law_1878 rfl (lv_at hl 3 rfl) ?_
  refine lv_iload_n hx hb dL_law_1879 rfl (lv_at hl 0 rfl) ?_
  refine lv_iconst (v := 4) hx hb dL_law_1880 (by decide) ?_
  refine lv_iadd hx hb dL_law_1881 ?_
  refine oh_nrm (v := 4) (by decide) ?_
  refine va_sld hx hb hX hbl hbA hS (show vp_in 4 8 by unfold vp_in; decide) dL_law_1882 ?_
  refine oh_nrm (v := xs 4) rfl ?_
  refine lv_aload_n hx hb dL_law_1883 rfl (lv_at hl 3 rfl) ?_
  refine lv_iload_n hx hb dL_law_1884 rfl (lv_at hl 0 rfl) ?_
  refine lv_iconst (v := 5) hx hb dL_law_1885 (by decide) ?_
  refine lv_iadd hx hb dL_law_1886 ?_
  refine oh_nrm (v := 5) (by decide) ?_
  refine va_sld hx hb hX hbl hbA hS (show vp_in 5 8 by unfold vp_in; decide) dL_law_1887 ?_
  refine oh_nrm (v := xs 5) rfl ?_
  refine lv_aload_n hx hb dL_law_1888 rfl (lv_at hl 3 rfl) ?_
  refine lv_iload_n hx hb dL_law_1889 rfl (lv_at hl 0 rfl) ?_
  refine lv_bipush (v := 6) hx hb dL_law_1890 (by decide) ?_
  refine lv_iadd hx hb dL_law_1892 ?_
  refine oh_nrm (v := 6) (by decide) ?_
  refine va_sld hx hb hX hbl hbA hS (show vp_in 6 8 by unfold vp_in; decide) dL_law_1893 ?_
  refine oh_nrm (v := xs 6) rfl ?_
  refine lv_aload_n hx hb dL_law_1894 rfl (lv_at hl 3 rfl) ?_
  refine lv_iload_n hx hb dL_law_1895 rfl (lv_at hl 0 rfl) ?_
  refine lv_bipush (v := 7) hx hb dL_law_1896 (by decide) ?_
  refine lv_iadd hx hb dL_law_1898 ?_
  refine oh_nrm (v := 7) (by decide) ?_
  refine va_sld hx hb hX hbl hbA hS (show vp_in 7 8 by unfold vp_in; decide) dL_law_1899 ?_
  refine oh_nrm (v := xs 7) rfl ?_
  refine oh_mVl (wr := []) (As := [.int (xs 1), .int (xs 2), .int (xs 3), .int (xs 4), .int (xs 5), .int (xs 6), .int (xs 7)]) (rest := [.long (-2)]) ⟨hx, hb, hml, hown, htg⟩ (c_X7_frost l D E G H.size (ma 0) (xs 1) (xs 2) (xs 3) (xs 4) (xs 5) (xs 6) (xs 7) (ma 1) (ma 2) (ma 3) (ma 4) (ma 5) (ma 6) (ma 7) (ma 8) (ma 9) (ma 10) (ma 11) (ma 12) (ma 13) (ma 14) (ma 15)) (cwV 7 htg (oh_gV q_1405 q_1406 q_1407 q_73 q_1408) rfl rfl rfl pdVX7_frost ⟨Nat.le_of_ble_eq_true rfl, Nat.le_of_ble_eq_true rfl⟩) hK hP hD hG hS hA [0, 8] [] rfl rfl (by decide) (by decide) (by decide) (va_recv hK hP (ci := 7) (q0 := 0) rfl rfl) rfl hl.1 rfl (Nat.le_of_ble_eq_true rfl) dL_law_1900 ⟨(show 109 ≤ 600000 from Nat.le_of_ble_eq_true rfl), (show 2593 ≤ 7302250 from Nat.le_of_ble_eq_true rfl)⟩ (fun r_2 u H locs hw hP hD hS => ?_)
  subst hw
  refine W.widen (k := 109) (n := 2593) (Nat.le_refl _) (Nat.le_refl _) ?_
  refine W.lcmp hx hb dL_law_1903 ?_
  refine oh_nrm (v := 0) ((lg_cmp_eq _ _).mpr (rfl)) ?_
  refine lv_if_eq (tgt := 2047) hx hb dL_law_1904 (by decide) (fun _ => ?_) (fun c => absurd (show (0 : Int32) = 0 from by decide) c)
  exact lw_end C0 hAe hS (lv_sub hl [0, 3] rfl) (show 109 ≤ 600000 from Nat.le_of_ble_eq_true rfl) (show 2593 ≤ 7302250 from Nat.le_of_ble_eq_true rfl)
set_option maxHeartbeats 4000000 in
set_option maxRecDepth 100000 in
/-- the law at one call of begin -/
theorem lc_begin {p : Program} {e : Env} {s : State} {m : MethodId} {below : List Frame} {meth : Method} {c : Code} (l : Launch) {b : Nat} {xs : Nat → Int32} (C0 : lw_At p s m meth c b 8 xs) {D : va_G} {E : Nat → ClassId} {G : Nat → Nat} {A : Nat → Prop} (hAe : A = fun q => s.heap.size ≤ q) (hK : va_K D vwCl (oh_ty E) s) (hG : oh_G G A s) {xa ma r1 r2 r3 r4 r5 : Nat → Nat} {H : Heap} {locs : List Loc} (hP : va_P D vwCl (lw_x E xa ++ lw_m E ma r1 r2 r3 r4 r5) H) (hD : va_D A (lw_x E xa ++ lw_m E ma r1 r2 r3 r4 r5)) (hS : va_S A s.heap H locs) {ls : Array Slot} (hl : lv_has ls 4 [(3, .int 0), (2, .ref (ma 0)), (1, .ref (xa 0)), (0, .ref b)]) : W p l e room_1 s m #[Value.ref b] below meth c H locs 109 2593 (lw_Z below #[Value.ref b] s) (F0 m 1909 ls []) := by
  obtain ⟨hx, hb, hr, hml, hown, hts, hX, hbl, hlocks, hgv⟩ := id C0
  have hown : s.vm.findClass RL = some m.cls := hown
  have htg : ∀ w ∈ oh_t, w.before _ s = true := fun w h => hts w (List.mem_filter.mp h).1
  have hA : ∀ q, s.heap.size ≤ q → A q := fun q h => by rw [hAe]; exact h
  have hbA : ¬ A b := by rw [hAe]; exact Nat.not_le.mpr hbl
  refine lv_aload_n hx hb dL_law_1909 rfl (lv_at hl 2 rfl) ?_
  refine lv_aload_n hx hb dL_law_1910 rfl (lv_at hl 3 rfl) ?_
  refine lv_iload_n hx hb dL_law_1911 rfl (lv_at hl 0 rfl) ?_
  refine lv_iconst (v := 1) hx hb dL_law_1912 (by decide) ?_
  refine lv_iadd hx hb dL_law_1913 ?_
  refine oh_nrm (v := 1) (by decide) ?_
  refine va_sld hx hb hX hbl hbA hS (show vp_in 1 8 by unfold vp_in; decide) dL_law_1914 ?_
  refine oh_nrm (v := xs 1) rfl ?_
  refine lv_aload_n hx hb dL_law_1915 rfl (lv_at hl 3 rfl) ?_
  refine lv_iload_n hx hb dL_law_1916 rfl (lv_at hl 0 rfl) ?_
  refine lv_iconst (v := 2) hx hb dL_law_1917 (by decide) ?_
  refine lv_iadd hx hb dL_law_1918 ?_
  refine oh_nrm (v := 2) (by decide) ?_
  refine va_sld hx hb hX hbl hbA hS (show vp_in 2 8 by unfold vp_in; decide) dL_law_1919 ?_
  refine oh_nrm (v := xs 2) rfl ?_
  refine lv_aload_n hx hb dL_law_1920 rfl (lv_at hl 3 rfl) ?_
  refine lv_iload_n hx hb dL_law_1921 rfl (lv_at hl 0 rfl) ?_
  refine lv_iconst (v := 3) hx hb dL_law_1922 (by decide) ?_
  refine lv_iadd hx hb dL_law_1923 ?_
  refine oh_nrm (v := 3) (by decide) ?_
  refine va_sld hx hb hX hbl hbA hS (show vp_in 3 8 by unfold vp_in; decide) dL_law_1924 ?_
  refine oh_nrm (v := xs 3) rfl ?_
  refine lv_aload_n hx hb dL_law_1925 rfl (lv_at hl 3 rfl) ?_
  refine lv_iload_n hx hb dL_law_1926 rfl (lv_at hl 0 rfl) ?_
  refine lv_iconst (v := 4) hx hb dL_law_1927 (by decide) ?_
  refine lv_iadd hx hb dL_law_1928 ?_
  refine oh_nrm (v := 4) (by decide) ?_
  refine va_sld hx hb hX hbl hbA hS (show vp_in 4 8 by unfold vp_in; decide) dL_law_1929 ?_
  refine oh_nrm (v := xs 4) rfl ?_
  refine oh_lV (wx := lw_x E xa) (wm := lw_m E ma r1 r2 r3 r4 r5) (As := [.int (xs 1), .int (xs 2), .int (xs 3), .int (xs 4)]) (rest := []) ⟨hx, hb, hml, hown, htg⟩ (c_X6_begin l D E G H.size (xa 0) (xs 1) (xs 2) (xs 3) (xs 4) (xa 1) (xa 9) (xa 17) (xa 24) (xa 28) (xa 30) (xa 33) (xa 34) (xa 2) (xa 3) (xa 4) (xa 5) (xa 6) (xa 7) (xa 8)) (cwV 4 htg (oh_gV q_904 q_905 q_906 q_66 q_907) rfl rfl rfl pdVX6_begin ⟨Nat.le_of_ble_eq_true rfl, Nat.le_of_ble_eq_true rfl⟩) hK hP hD hG hS hA [0, 1, 2, 33] rfl (by decide) (show ∀ i ∈ ([0, 1, 2, 33] : List Nat), i < 35 by decide) (va_recv hK hP (ci := 6) (q0 := 0) rfl rfl) rfl hl.1 rfl (Nat.le_of_ble_eq_true rfl) dL_law_1930 ⟨(show 109 ≤ 600000 from Nat.le_of_ble_eq_true rfl), (show 2593 ≤ 7302250 from Nat.le_of_ble_eq_true rfl)⟩ (fun r_1 u H locs hw hP hD hS => ?_)
  subst hw
  refine W.widen (k := 109) (n := 2593) (Nat.le_refl _) (Nat.le_refl _) ?_
  refine lv_aload_n hx hb dL_law_1933 rfl (lv_at hl 1 rfl) ?_
  refine lv_aload_n hx hb dL_law_1934 rfl (lv_at hl 3 rfl) ?_
  refine lv_iload_n hx hb dL_law_1935 rfl (lv_at hl 0 rfl) ?_
  refine lv_iconst (v := 1) hx hb dL_law_1936 (by decide) ?_
  refine lv_iadd hx hb dL_law_1937 ?_
  refine oh_nrm (v := 1) (by decide) ?_
  refine va_sld hx hb hX hbl hbA hS (show vp_in 1 8 by unfold vp_in; decide) dL_law_1938 ?_
  refine oh_nrm (v := xs 1) rfl ?_
  refine lv_aload_n hx hb dL_law_1939 rfl (lv_at hl 3 rfl) ?_
  refine lv_iload_n hx hb dL_law_1940 rfl (lv_at hl 0 rfl) ?_
  refine lv_iconst (v := 2) hx hb dL_law_1941 (by decide) ?_
  refine lv_iadd hx hb dL_law_1942 ?_
  refine oh_nrm (v := 2) (by decide) ?_
  refine va_sld hx hb hX hbl hbA hS (show vp_in 2 8 by unfold vp_in; decide) dL_law_1943 ?_
  refine oh_nrm (v := xs 2) rfl ?_
  refine lv_aload_n hx hb dL_law_1944 rfl (lv_at hl 3 rfl) ?_
  refine lv_iload_n hx hb dL_law_1945 rfl (lv_at hl 0 rfl) ?_
  refine lv_iconst (v := 3) hx hb dL_law_1946 (by decide) ?_
  refine lv_iadd hx hb dL_law_1947 ?_
  refine oh_nrm (v := 3) (by decide) ?_
  refine va_sld hx hb hX hbl hbA hS (show vp_in 3 8 by unfold vp_in; decide) dL_law_1948 ?_
  refine oh_nrm (v := xs 3) rfl ?_
  refine lv_aload_n hx hb dL_law_1949 rfl (lv_at hl 3 rfl) ?_
  refine lv_iload_n hx hb dL_law_1950 rfl (lv_at hl 0 rfl) ?_
  refine lv_iconst (v := 4) hx hb dL_law_1951 (by decide) ?_
  refine lv_iadd hx hb dL_law_1952 ?_
  refine oh_nrm (v := 4) (by decide) ?_
  refine va_sld hx hb hX hbl hbA hS (show vp_in 4 8 by unfold vp_in; decide) dL_law_1953 ?_
  refine oh_nrm (v := xs 4) rfl ?_
  refine oh_mV (wr := []) (As := [.int (xs 1), .int (xs 2), .int (xs 3), .int (xs 4)]) (rest := [.int (-2)]) ⟨hx, hb, hml, hown, htg⟩ (c_X7_begin l D E G H.size (ma 0) (xs 1) (xs 2) (xs 3) (xs 4) (ma 1) (ma 2) (ma 3) (ma 4) (ma 5) (ma 6) (ma 7) (ma 8) (ma 9) (ma 10) (ma 11) (ma 12) (ma 13) (ma 14) (ma 15)) (cwV 4 htg (oh_gV q_1409 q_1410 q_1411 q_73 q_1412) rfl rfl rfl pdVX7_begin ⟨Nat.le_of_ble_eq_true rfl, Nat.le_of_ble_eq_true rfl⟩) hK hP hD hG hS hA [0, 8] [] rfl rfl (by decide) (by decide) (by decide) (va_recv hK hP (ci := 7) (q0 := 0) rfl rfl) rfl hl.1 rfl (Nat.le_of_ble_eq_true rfl) dL_law_1954 ⟨(show 109 ≤ 600000 from Nat.le_of_ble_eq_true rfl), (show 2593 ≤ 7302250 from Nat.le_of_ble_eq_true rfl)⟩ (fun r_2 u H locs hw hP hD hS => ?_)
  subst hw
  refine W.widen (k := 109) (n := 2593) (Nat.le_refl _) (Nat.le_refl _) ?_
  refine lv_icmp_eq (tgt := 2047) hx hb dL_law_1957 (by decide) (fun _ => ?_) (fun c => absurd (show (-2 : Int32) = (-2) from by decide) c)
  exact lw_end C0 hAe hS (lv_sub hl [0, 3] rfl) (show 109 ≤ 600000 from Nat.le_of_ble_eq_true rfl) (show 2593 ≤ 7302250 from Nat.le_of_ble_eq_true rfl)
set_option maxHeartbeats 4000000 in
set_option maxRecDepth 100000 in
/-- the law at one call of step -/
theorem lc_step {p : Program} {e : Env} {s : State} {m : MethodId} {below : List Frame} {meth : Method} {c : Code} (l : Launch) {b : Nat} {xs : Nat → Int32} (C0 : lw_At p s m meth c b 8 xs) {D : va_G} {E : Nat → ClassId} {G : Nat → Nat} {A : Nat → Prop} (hAe : A = fun q => s.heap.size ≤ q) (hK : va_K D vwCl (oh_ty E) s) (hG : oh_G G A s) {xa ma r1 r2 r3 r4 r5 : Nat → Nat} {H : Heap} {locs : List Loc} (hP : va_P D vwCl (lw_x E xa ++ lw_m E ma r1 r2 r3 r4 r5) H) (hD : va_D A (lw_x E xa ++ lw_m E ma r1 r2 r3 r4 r5)) (hS : va_S A s.heap H locs) {ls : Array Slot} (hl : lv_has ls 4 [(3, .int 0), (2, .ref (ma 0)), (1, .ref (xa 0)), (0, .ref b)]) : W p l e room_1 s m #[Value.ref b] below meth c H locs 109 2593 (lw_Z below #[Value.ref b] s) (F0 m 1962 ls []) := by
  obtain ⟨hx, hb, hr, hml, hown, hts, hX, hbl, hlocks, hgv⟩ := id C0
  have hown : s.vm.findClass RL = some m.cls := hown
  have htg : ∀ w ∈ oh_t, w.before _ s = true := fun w h => hts w (List.mem_filter.mp h).1
  have hA : ∀ q, s.heap.size ≤ q → A q := fun q h => by rw [hAe]; exact h
  have hbA : ¬ A b := by rw [hAe]; exact Nat.not_le.mpr hbl
  refine lv_aload_n hx hb dL_law_1962 rfl (lv_at hl 2 rfl) ?_
  refine oh_lV (wx := lw_x E xa) (wm := lw_m E ma r1 r2 r3 r4 r5) (As := []) (rest := []) ⟨hx, hb, hml, hown, htg⟩ (c_X6_step l D E G H.size (xa 0) (xa 1) (xa 9) (xa 17) (xa 24) (xa 28) (xa 30) (xa 33) (xa 34) (xa 2) (xa 3) (xa 4) (xa 5) (xa 6) (xa 7) (xa 8)) (cwV 0 htg (oh_gV q_912 q_913 q_914 q_66 q_915) rfl rfl rfl pdVX6_step ⟨Nat.le_of_ble_eq_true rfl, Nat.le_of_ble_eq_true rfl⟩) hK hP hD hG hS hA [0, 1, 33] rfl (by decide) (show ∀ i ∈ ([0, 1, 33] : List Nat), i < 35 by decide) (va_recv hK hP (ci := 6) (q0 := 0) rfl rfl) rfl hl.1 rfl (Nat.le_of_ble_eq_true rfl) dL_law_1963 ⟨(show 109 ≤ 600000 from Nat.le_of_ble_eq_true rfl), (show 2593 ≤ 7302250 from Nat.le_of_ble_eq_true rfl)⟩ (fun r_1 u H locs hw hP hD hS => ?_)
  subst hw
  refine W.widen (k := 109) (n := 2593) (Nat.le_refl _) (Nat.le_refl _) ?_
  refine lv_aload_n hx hb dL_law_1966 rfl (lv_at hl 1 rfl) ?_
  refine oh_mV (wr := []) (As := []) (rest := [.int (-5)]) ⟨hx, hb, hml, hown, htg⟩ (c_X7_step l D E G H.size (ma 0) (ma 1) (ma 2) (ma 3) (ma 4) (ma 5) (ma 6) (ma 7) (ma 8) (ma 9) (ma 10) (ma 11) (ma 12) (ma 13) (ma 14) (ma 15)) (cwV 0 htg (oh_gV q_1413 q_1414 q_1415 q_73 q_1416) rfl rfl rfl pdVX7_step ⟨Nat.le_of_ble_eq_true rfl, Nat.le_of_ble_eq_true rfl⟩) hK hP hD hG hS hA [0, 14, 8] [] rfl rfl (by decide) (by decide) (by decide) (va_recv hK hP (ci := 7) (q0 := 0) rfl rfl) rfl hl.1 rfl (Nat.le_of_ble_eq_true rfl) dL_law_1967 ⟨(show 109 ≤ 600000 from Nat.le_of_ble_eq_true rfl), (show 2593 ≤ 7302250 from Nat.le_of_ble_eq_true rfl)⟩ (fun r_2 u H locs hw hP hD hS => ?_)
  subst hw
  refine W.widen (k := 109) (n := 2593) (Nat.le_refl _) (Nat.le_refl _) ?_
  refine lv_icmp_eq (tgt := 2047) hx hb dL_law_1970 (by decide) (fun _ => ?_) (fun c => absurd (show (-5 : Int32) = (-5) from by decide) c)
  exact lw_end C0 hAe hS (lv_sub hl [0, 3] rfl) (show 109 ≤ 600000 from Nat.le_of_ble_eq_true rfl) (show 2593 ≤ 7302250 from Nat.le_of_ble_eq_true rfl)
set_option maxHeartbeats 4000000 in
set_option maxRecDepth 100000 in
/-- the law at one call of under -/
theorem lc_under {p : Program} {e : Env} {s : State} {m : MethodId} {below : List Frame} {meth : Method} {c : Code} (l : Launch) {b : Nat} {xs : Nat → Int32} (C0 : lw_At p s m meth c b 8 xs) {D : va_G} {E : Nat → ClassId} {G : Nat → Nat} {A : Nat → Prop} (hAe : A = fun q => s.heap.size ≤ q) (hK : va_K D vwCl (oh_ty E) s) (hG : oh_G G A s) {xa ma r1 r2 r3 r4 r5 : Nat → Nat} {H : Heap} {locs : List Loc} (hP : va_P D vwCl (lw_x E xa ++ lw_m E ma r1 r2 r3 r4 r5) H) (hD : va_D A (lw_x E xa ++ lw_m E ma r1 r2 r3 r4 r5)) (hS : va_S A s.heap H locs) {ls : Array Slot} (hl : lv_has ls 4 [(3, .int 0), (2, .ref (ma 0)), (1, .ref (xa 0)), (0, .ref b)]) : W p l e room_1 s m #[Value.ref b] below meth c H locs 109 2593 (lw_Z below #[Value.ref b] s) (F0 m 1975 ls []) := by
  obtain ⟨hx, hb, hr, hml, hown, hts, hX, hbl, hlocks, hgv⟩ := id C0
  have hown : s.vm.findClass RL = some m.cls := hown
  have htg : ∀ w ∈ oh_t, w.before _ s = true := fun w h => hts w (List.mem_filter.mp h).1
  have hA : ∀ q, s.heap.size ≤ q → A q := fun q h => by rw [hAe]; exact h
  have hbA : ¬ A b := by rw [hAe]; exact Nat.not_le.mpr hbl
  refine lv_aload_n hx hb dL_law_1975 rfl (lv_at hl 2 rfl) ?_
  refine lv_aload_n hx hb dL_law_1976 rfl (lv_at hl 3 rfl) ?_
  refine lv_iload_n hx hb dL_law_1977 rfl (lv_at hl 0 rfl) ?_
  refine lv_iconst (v := 1) hx hb dL_law_1978 (by decide) ?_
  refine lv_iadd hx hb dL_law_1979 ?_
  refine oh_nrm (v := 1) (by decide) ?_
  refine va_sld hx hb hX hbl hbA hS (show vp_in 1 8 by unfold vp_in; decide) dL_law_1980 ?_
  refine oh_nrm (v := xs 1) rfl ?_
  refine oh_lV (wx := lw_x E xa) (wm := lw_m E ma r1 r2 r3 r4 r5) (As := [.int (xs 1)]) (rest := []) ⟨hx, hb, hml, hown, htg⟩ (c_X6_under l D E G H.size (xa 0) (xs 1) (xa 1) (xa 9) (xa 17) (xa 24) (xa 28) (xa 30) (xa 33) (xa 34) (xa 2) (xa 3) (xa 4) (xa 5) (xa 6) (xa 7) (xa 8)) (cwV 1 htg (oh_gV q_929 q_930 q_931 q_66 q_932) rfl rfl rfl pdVX6_under ⟨Nat.le_of_ble_eq_true rfl, Nat.le_of_ble_eq_true rfl⟩) hK hP hD hG hS hA [0, 1, 33] rfl (by decide) (show ∀ i ∈ ([0, 1, 33] : List Nat), i < 35 by decide) (va_recv hK hP (ci := 6) (q0 := 0) rfl rfl) rfl hl.1 rfl (Nat.le_of_ble_eq_true rfl) dL_law_1981 ⟨(show 109 ≤ 600000 from Nat.le_of_ble_eq_true rfl), (show 2593 ≤ 7302250 from Nat.le_of_ble_eq_true rfl)⟩ (fun r_1 u H locs hw hP hD hS => ?_)
  subst hw
  refine W.widen (k := 109) (n := 2593) (Nat.le_refl _) (Nat.le_refl _) ?_
  refine lv_aload_n hx hb dL_law_1984 rfl (lv_at hl 1 rfl) ?_
  refine lv_aload_n hx hb dL_law_1985 rfl (lv_at hl 3 rfl) ?_
  refine lv_iload_n hx hb dL_law_1986 rfl (lv_at hl 0 rfl) ?_
  refine lv_iconst (v := 1) hx hb dL_law_1987 (by decide) ?_
  refine lv_iadd hx hb dL_law_1988 ?_
  refine oh_nrm (v := 1) (by decide) ?_
  refine va_sld hx hb hX hbl hbA hS (show vp_in 1 8 by unfold vp_in; decide) dL_law_1989 ?_
  refine oh_nrm (v := xs 1) rfl ?_
  refine oh_mV (wr := []) (As := [.int (xs 1)]) (rest := [.int (fX6_under (xs 1))]) ⟨hx, hb, hml, hown, htg⟩ (c_X7_under l D E G H.size (ma 0) (xs 1) (ma 1) (ma 2) (ma 3) (ma 4) (ma 5) (ma 6) (ma 7) (ma 8) (ma 9) (ma 10) (ma 11) (ma 12) (ma 13) (ma 14) (ma 15)) (cwV 1 htg (oh_gV q_1417 q_1418 q_1419 q_73 q_1420) rfl rfl rfl pdVX7_under ⟨Nat.le_of_ble_eq_true rfl, Nat.le_of_ble_eq_true rfl⟩) hK hP hD hG hS hA [0, 14, 8] [] rfl rfl (by decide) (by decide) (by decide) (va_recv hK hP (ci := 7) (q0 := 0) rfl rfl) rfl hl.1 rfl (Nat.le_of_ble_eq_true rfl) dL_law_1990 ⟨(show 109 ≤ 600000 from Nat.le_of_ble_eq_true rfl), (show 2593 ≤ 7302250 from Nat.le_of_ble_eq_true rfl)⟩ (fun r_2 u H locs hw hP hD hS => ?_)
  subst hw
  refine W.widen (k := 109) (n := 2593) (Nat.le_refl _) (Nat.le_refl _) ?_
  refine lv_icmp_eq (tgt := 2047) hx hb dL_law_1993 (by decide) (fun _ => ?_) (fun c => absurd (show (fX6_under (xs 1)) = (fX7_under (xs 1)) from eq_under (xs 1)) c)
  exact lw_end C0 hAe hS (lv_sub hl [0, 3] rfl) (show 109 ≤ 600000 from Nat.le_of_ble_eq_true rfl) (show 2593 ≤ 7302250 from Nat.le_of_ble_eq_true rfl)
set_option maxHeartbeats 4000000 in
set_option maxRecDepth 100000 in
/-- the law at one call of back -/
theorem lc_back {p : Program} {e : Env} {s : State} {m : MethodId} {below : List Frame} {meth : Method} {c : Code} (l : Launch) {b : Nat} {xs : Nat → Int32} (C0 : lw_At p s m meth c b 8 xs) {D : va_G} {E : Nat → ClassId} {G : Nat → Nat} {A : Nat → Prop} (hAe : A = fun q => s.heap.size ≤ q) (hK : va_K D vwCl (oh_ty E) s) (hG : oh_G G A s) {xa ma r1 r2 r3 r4 r5 : Nat → Nat} {H : Heap} {locs : List Loc} (hP : va_P D vwCl (lw_x E xa ++ lw_m E ma r1 r2 r3 r4 r5) H) (hD : va_D A (lw_x E xa ++ lw_m E ma r1 r2 r3 r4 r5)) (hS : va_S A s.heap H locs) {ls : Array Slot} (hl : lv_has ls 4 [(3, .int 0), (2, .ref (ma 0)), (1, .ref (xa 0)), (0, .ref b)]) : W p l e room_1 s m #[Value.ref b] below meth c H locs 109 2593 (lw_Z below #[Value.ref b] s) (F0 m 2011 ls []) := by
  obtain ⟨hx, hb, hr, hml, hown, hts, hX, hbl, hlocks, hgv⟩ := id C0
  have hown : s.vm.findClass RL = some m.cls := hown
  have htg : ∀ w ∈ oh_t, w.before _ s = true := fun w h => hts w (List.mem_filter.mp h).1
  have hA : ∀ q, s.heap.size ≤ q → A q := fun q h => by rw [hAe]; exact h
  have hbA : ¬ A b := by rw [hAe]; exact Nat.not_le.mpr hbl
  refine lv_aload_n hx hb dL_law_2011 rfl (lv_at hl 2 rfl) ?_
  refine oh_lV (wx := lw_x E xa) (wm := lw_m E ma r1 r2 r3 r4 r5) (As := []) (rest := []) ⟨hx, hb, hml, hown, htg⟩ (c_X6_back l D E G H.size (xa 0) (xa 1) (xa 9) (xa 17) (xa 24) (xa 28) (xa 30) (xa 33) (xa 34)) (cwV 0 htg (oh_gV q_942 q_943 q_944 q_66 q_945) rfl rfl rfl pdVX6_back ⟨Nat.le_of_ble_eq_true rfl, Nat.le_of_ble_eq_true rfl⟩) hK hP hD hG hS hA [0, 33] rfl (by decide) (show ∀ i ∈ ([0, 33] : List Nat), i < 35 by decide) (va_recv hK hP (ci := 6) (q0 := 0) rfl rfl) rfl hl.1 rfl (Nat.le_of_ble_eq_true rfl) dL_law_2012 ⟨(show 109 ≤ 600000 from Nat.le_of_ble_eq_true rfl), (show 2593 ≤ 7302250 from Nat.le_of_ble_eq_true rfl)⟩ (fun r_1 u H locs hw hP hD hS => ?_)
  subst hw
  refine W.widen (k := 109) (n := 2593) (Nat.le_refl _) (Nat.le_refl _) ?_
  refine lv_aload_n hx hb dL_law_2015 rfl (lv_at hl 1 rfl) ?_
  refine oh_mV (wr := []) (As := []) (rest := [.int (-5)]) ⟨hx, hb, hml, hown, htg⟩ (c_X7_back l D E G H.size (ma 0) (ma 1) (ma 2) (ma 3) (ma 4) (ma 5) (ma 6) (ma 7) (ma 8) (ma 9) (ma 10) (ma 11) (ma 12) (ma 13) (ma 14) (ma 15)) (cwV 0 htg (oh_gV q_1437 q_1438 q_1439 q_73 q_1440) rfl rfl rfl pdVX7_back ⟨Nat.le_of_ble_eq_true rfl, Nat.le_of_ble_eq_true rfl⟩) hK hP hD hG hS hA [0, 8] [] rfl rfl (by decide) (by decide) (by decide) (va_recv hK hP (ci := 7) (q0 := 0) rfl rfl) rfl hl.1 rfl (Nat.le_of_ble_eq_true rfl) dL_law_2016 ⟨(show 109 ≤ 600000 from Nat.le_of_ble_eq_true rfl), (show 2593 ≤ 7302250 from Nat.le_of_ble_eq_true rfl)⟩ (fun r_2 u H locs hw hP hD hS => ?_)
  subst hw
  refine W.widen (k := 109) (n := 2593) (Nat.le_refl _) (Nat.le_refl _) ?_
  refine lv_icmp_eq (tgt := 2047) hx hb dL_law_2019 (by decide) (fun _ => ?_) (fun c => absurd (show (-5 : Int32) = (-5) from by decide) c)
  exact lw_end C0 hAe hS (lv_sub hl [0, 3] rfl) (show 109 ≤ 600000 from Nat.le_of_ble_eq_true rfl) (show 2593 ≤ 7302250 from Nat.le_of_ble_eq_true rfl)
set_option maxHeartbeats 4000000 in
set_option maxRecDepth 100000 in
/-- the law at one call of status -/
theorem lc_status {p : Program} {e : Env} {s : State} {m : MethodId} {below : List Frame} {meth : Method} {c : Code} (l : Launch) {b : Nat} {xs : Nat → Int32} (C0 : lw_At p s m meth c b 8 xs) {D : va_G} {E : Nat → ClassId} {G : Nat → Nat} {A : Nat → Prop} (hAe : A = fun q => s.heap.size ≤ q) (hK : va_K D vwCl (oh_ty E) s) (hG : oh_G G A s) {xa ma r1 r2 r3 r4 r5 : Nat → Nat} {H : Heap} {locs : List Loc} (hP : va_P D vwCl (lw_x E xa ++ lw_m E ma r1 r2 r3 r4 r5) H) (hD : va_D A (lw_x E xa ++ lw_m E ma r1 r2 r3 r4 r5)) (hS : va_S A s.heap H locs) {ls : Array Slot} (hl : lv_has ls 4 [(3, .int 0), (2, .ref (ma 0)), (1, .ref (xa 0)), (0, .ref b)]) : W p l e room_1 s m #[Value.ref b] below meth c H locs 109 2593 (lw_Z below #[Value.ref b] s) (F0 m 2024 ls []) := by
  obtain ⟨hx, hb, hr, hml, hown, hts, hX, hbl, hlocks, hgv⟩ := id C0
  have hown : s.vm.findClass RL = some m.cls := hown
  have htg : ∀ w ∈ oh_t, w.before _ s = true := fun w h => hts w (List.mem_filter.mp h).1
  have hA : ∀ q, s.heap.size ≤ q → A q := fun q h => by rw [hAe]; exact h
  have hbA : ¬ A b := by rw [hAe]; exact Nat.not_le.mpr hbl
  refine lv_aload_n hx hb dL_law_2024 rfl (lv_at hl 2 rfl) ?_
  refine lv_aload_n hx hb dL_law_2025 rfl (lv_at hl 3 rfl) ?_
  refine lv_iload_n hx hb dL_law_2026 rfl (lv_at hl 0 rfl) ?_
  refine lv_iconst (v := 1) hx hb dL_law_2027 (by decide) ?_
  refine lv_iadd hx hb dL_law_2028 ?_
  refine oh_nrm (v := 1) (by decide) ?_
  refine va_sld hx hb hX hbl hbA hS (show vp_in 1 8 by unfold vp_in; decide) dL_law_2029 ?_
  refine oh_nrm (v := xs 1) rfl ?_
  refine oh_pV (As := [.int (xs 1)]) (rest := []) (v := fX6_status (xs 1)) ⟨hx, hb, hml, hown, htg⟩ (c_X6_status l D E G (xa 0) (xs 1) (xa 1) (xa 9) (xa 17) (xa 24) (xa 28) (xa 30) (xa 33) (xa 34) (xa 2) (xa 3) (xa 4) (xa 5) (xa 6) (xa 7) (xa 8) (xa 29) (xa 25) (xa 26) (xa 27)) (cwV 1 htg (oh_gV q_951 q_952 q_953 q_66 q_954) rfl rfl rfl pdVX6_status ⟨Nat.le_of_ble_eq_true rfl, Nat.le_of_ble_eq_true rfl⟩) hK (hP.sub (ws' := [(xa 0, .inr (6, [.ref (xa 1), .ref (xa 9), .int 0, .ref (xa 17), .ref (xa 24), .ref (xa 28), .ref (xa 30), .ref (xa 33), .ref (xa 34)])), (xa 1, .inr (0, [.ref (xa 2), .ref (xa 3), .ref (xa 4), .ref (xa 5), .ref (xa 6), .ref (xa 7), .ref (xa 8), .int 0])), (xa 2, .inl (E 0, 4, .inl (fun _ => 0))), (xa 33, .inl (E 0, 5, .inl (fun _ => 0))), (xa 28, .inr (4, [.ref (xa 29), .int 0, .int (-1), .int 0, .int 0, .int 0])), (xa 24, .inr (3, [.ref (xa 25), .ref (xa 26), .ref (xa 27)])), (xa 25, .inl (E 0, 8, .inl (fun _ => (-1))))]) [0, 1, 2, 33, 28, 24, 25] rfl) hG hS (va_recv hK hP (ci := 6) (q0 := 0) rfl rfl) rfl hl.1 rfl (Nat.le_of_ble_eq_true rfl) dL_law_2030 ⟨(show 109 ≤ 600000 from Nat.le_of_ble_eq_true rfl), (show 2593 ≤ 7302250 from Nat.le_of_ble_eq_true rfl)⟩ ?_
  refine lv_aload_n hx hb dL_law_2033 rfl (lv_at hl 1 rfl) ?_
  refine lv_aload_n hx hb dL_law_2034 rfl (lv_at hl 3 rfl) ?_
  refine lv_iload_n hx hb dL_law_2035 rfl (lv_at hl 0 rfl) ?_
  refine lv_iconst (v := 1) hx hb dL_law_2036 (by decide) ?_
  refine lv_iadd hx hb dL_law_2037 ?_
  refine oh_nrm (v := 1) (by decide) ?_
  refine va_sld hx hb hX hbl hbA hS (show vp_in 1 8 by unfold vp_in; decide) dL_law_2038 ?_
  refine oh_nrm (v := xs 1) rfl ?_
  refine oh_pV (As := [.int (xs 1)]) (rest := [.int (fX6_status (xs 1))]) (v := fX7_status (xs 1)) ⟨hx, hb, hml, hown, htg⟩ (c_X7_status l D E G (ma 0) (xs 1) (ma 1) (ma 2) (ma 3) (ma 4) (ma 5) (ma 6) (ma 7) (ma 8) (ma 9) (ma 10) (ma 11) (ma 12) (ma 13) (ma 14) (ma 15)) (cwV 1 htg (oh_gV q_1441 q_1442 q_1443 q_73 q_1444) rfl rfl rfl pdVX7_status ⟨Nat.le_of_ble_eq_true rfl, Nat.le_of_ble_eq_true rfl⟩) hK (hP.sub (ws' := [(ma 0, .inr (7, [.ref (ma 1), .ref (ma 2), .ref (ma 3), .ref (ma 4), .ref (ma 5), .ref (ma 6), .ref (ma 7), .int 0, .ref (ma 8), .int 0, .ref (ma 9), .int 0, .ref (ma 10), .int 0, .ref (ma 11), .int 0, .ref (ma 12), .ref (ma 13), .ref (ma 14), .int 0, .null, .int 0, .int 0, .int 0, .long 0, .int 0, .int 0, .ref (ma 15), .int 0])), (ma 1, .inl (E 0, 8, .inl (fun _ => 0))), (ma 8, .inl (E 0, 8, .inl (fun _ => 0)))]) [35, 36, 43] rfl) hG hS (va_recv hK hP (ci := 7) (q0 := 35) rfl rfl) rfl hl.1 rfl (Nat.le_of_ble_eq_true rfl) dL_law_2039 ⟨(show 109 ≤ 600000 from Nat.le_of_ble_eq_true rfl), (show 2593 ≤ 7302250 from Nat.le_of_ble_eq_true rfl)⟩ ?_
  refine lv_icmp_eq (tgt := 2047) hx hb dL_law_2042 (by decide) (fun _ => ?_) (fun c => absurd (show (fX6_status (xs 1)) = (fX7_status (xs 1)) from eq_status (xs 1)) c)
  exact lw_end C0 hAe hS (lv_sub hl [0, 3] rfl) (show 109 ≤ 600000 from Nat.le_of_ble_eq_true rfl) (show 2593 ≤ 7302250 from Nat.le_of_ble_eq_true rfl)
