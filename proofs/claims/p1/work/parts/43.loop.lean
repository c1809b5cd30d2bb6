set_option maxHeartbeats 4000000 in
set_option maxRecDepth 100000 in
/-- the law at its loop -/
theorem lw_18 {p : Program} {e : Env} {s : State} {m : MethodId} {below : List Frame} {meth : Method} {c : Code} (l : Launch) {b L : Nat} {xs : Nat → Int32} (hL : L ≤ 8) (C0 : lw_At p s m meth c b L xs) {D : va_G} {E : Nat → ClassId} {G : Nat → Nat} {A : Nat → Prop} (hAe : A = fun q => s.heap.size ≤ q) (hK : va_K D vwCl (oh_ty E) s) (hG : oh_G G A s) {xa ma r1 r2 r3 r4 r5 : Nat → Nat} {H : Heap} {locs : List Loc} (hP : va_P D vwCl (lw_x E xa ++ lw_m E ma r1 r2 r3 r4 r5) H) (hD : va_D A (lw_x E xa ++ lw_m E ma r1 r2 r3 r4 r5)) (hS : va_S A s.heap H locs) {ls : Array Slot} (hl : lv_has ls 4 [(3, .int 0), (2, .ref (ma 0)), (1, .ref (xa 0)), (0, .ref b)]) : W p l e room_1 s m #[Value.ref b] below meth c H locs 109 2593 (lw_Z below #[Value.ref b] s) (F0 m 18 ls []) := by
  obtain ⟨hx, hb, hr, hml, hown, hts, hX, hbl, hlocks, hgv⟩ := id C0
  have hbA : ¬ A b := by rw [hAe]; exact Nat.not_le.mpr hbl
  refine lv_iload_n hx hb dL_law_18 rfl (lv_at hl 0 rfl) ?_
  refine lv_aload_n hx hb dL_law_19 rfl (lv_at hl 3 rfl) ?_
  refine va_slen hx hb hX hbl hbA hS dL_law_20 ?_
  refine lv_bipush (v := 8) hx hb dL_law_21 (by decide) ?_
  refine lv_isub hx hb dL_law_23 ?_
  rcases Nat.lt_or_ge L 8 with h8 | h8
  · have hlt : Int32.ofNat L - 8 < 0 := by
      rcases (show L = 0 ∨ L = 1 ∨ L = 2 ∨ L = 3 ∨ L = 4 ∨ L = 5 ∨ L = 6 ∨ L = 7 by omega) with rfl | rfl | rfl | rfl | rfl | rfl | rfl | rfl <;> decide
    refine lv_icmp_gt (tgt := 2053) hx hb dL_law_24 (by decide) (fun _ => ?_) (fun c => absurd hlt c)
    refine lv_iconst (v := 1) hx hb dL_law_2053 (by decide) ?_
    refine va_forget (fun q hq => by have h := hS.2.2 q hq; rw [hAe] at h; exact h) ?_
    refine W.widen (k := 600000) (n := 7302250) (show 109 ≤ 600000 from Nat.le_of_ble_eq_true rfl) (show 2593 ≤ 7302250 from Nat.le_of_ble_eq_true rfl) ?_
    exact lw_ret hx hb hr hlocks dL_law_2054
  · have e8 : L = 8 := by omega
    subst e8
    refine oh_nrm (v := 0) (by decide) ?_
    refine lv_icmp_gt (tgt := 2053) hx hb dL_law_24 (by decide) (fun c => absurd c (show ¬ ((0 : Int32) < 0) by decide)) (fun _ => ?_)
    refine lv_aload_n hx hb dL_law_27 rfl (lv_at hl 3 rfl) ?_
    refine lv_iload_n hx hb dL_law_28 rfl (lv_at hl 0 rfl) ?_
    refine va_sld hx hb hX hbl hbA hS (show vp_in 0 8 by unfold vp_in; decide) dL_law_29 ?_
    refine lv_bipush (v := 63) hx hb dL_law_30 (by decide) ?_
    refine lv_iand hx hb dL_law_32 ?_
    refine oh_nrm (v := xs 0 &&& 63) rfl ?_
    obtain ⟨j, hj, ej⟩ := pk_andE (xs 0) (m := 63) 6 (by decide)
    rw [ej]
    rcases (show j = 0 ∨ j = 1 ∨ j = 2 ∨ j = 3 ∨ j = 4 ∨ j = 5 ∨ j = 6 ∨ j = 7 ∨ j = 8 ∨ j = 9 ∨ j = 10 ∨ j = 11 ∨ j = 12 ∨ j = 13 ∨ j = 14 ∨ j = 15 ∨ j = 16 ∨ j = 17 ∨ j = 18 ∨ j = 19 ∨ j = 20 ∨ j = 21 ∨ j = 22 ∨ j = 23 ∨ j = 24 ∨ j = 25 ∨ j = 26 ∨ j = 27 ∨ j = 28 ∨ j = 29 ∨ j = 30 ∨ j = 31 ∨ j = 32 ∨ j = 33 ∨ j = 34 ∨ j = 35 ∨ j = 36 ∨ j = 37 ∨ j = 38 ∨ j = 39 ∨ j = 40 ∨ j = 41 ∨ j = 42 ∨ 43 ≤ j by omega) with rfl | rfl | rfl | rfl | rfl | rfl | rfl | rfl | rfl | rfl | rfl | rfl | rfl | rfl | rfl | rfl | rfl | rfl | rfl | rfl | rfl | rfl | rfl | rfl | rfl | rfl | rfl | rfl | rfl | rfl | rfl | rfl | rfl | rfl | rfl | rfl | rfl | rfl | rfl | rfl | rfl | rfl | rfl | h43
    · refine lv_tableIn (off := 187) (tgt := 220) hx hb dL_law_33 (by decide) (by decide) (by decide) (by decide) ?_
      exact lc_row l C0 hAe hK hG hP hD hS hl
    · refine lv_tableIn (off := 230) (tgt := 263) hx hb dL_law_33 (by decide) (by decide) (by decide) (by decide) ?_
      exact lc_set l C0 hAe hK hG hP hD hS hl
    · refine lv_tableIn (off := 303) (tgt := 336) hx hb dL_law_33 (by decide) (by decide) (by decide) (by decide) ?_
      exact lc_copy l C0 hAe hK hG hP hD hS hl
    · refine lv_tableIn (off := 366) (tgt := 399) hx hb dL_law_33 (by decide) (by decide) (by decide) (by decide) ?_
      exact lc_element l C0 hAe hK hG hP hD hS hl
    · refine lv_tableIn (off := 400) (tgt := 433) hx hb dL_law_33 (by decide) (by decide) (by decide) (by decide) ?_
      exact lc_holds l C0 hAe hK hG hP hD hS hl
    · refine lv_tableIn (off := 423) (tgt := 456) hx hb dL_law_33 (by decide) (by decide) (by decide) (by decide) ?_
      exact lc_show l C0 hAe hK hG hP hD hS hl
    · refine lv_tableIn (off := 456) (tgt := 489) hx hb dL_law_33 (by decide) (by decide) (by decide) (by decide) ?_
      exact lc_says l C0 hAe hK hG hP hD hS hl
    · refine lv_tableIn (off := 489) (tgt := 522) hx hb dL_law_33 (by decide) (by decide) (by decide) (by decide) ?_
      exact lc_road l C0 hAe hK hG hP hD hS hl
    · refine lv_tableIn (off := 564) (tgt := 597) hx hb dL_law_33 (by decide) (by decide) (by decide) (by decide) ?_
      exact lc_bridge l C0 hAe hK hG hP hD hS hl
    · refine lv_tableIn (off := 627) (tgt := 660) hx hb dL_law_33 (by decide) (by decide) (by decide) (by decide) ?_
      exact lc_prop l C0 hAe hK hG hP hD hS hl
    · refine lv_tableIn (off := 670) (tgt := 703) hx hb dL_law_33 (by decide) (by decide) (by decide) (by decide) ?_
      exact lc_waggon l C0 hAe hK hG hP hD hS hl
    · refine lv_tableIn (off := 713) (tgt := 746) hx hb dL_law_33 (by decide) (by decide) (by decide) (by decide) ?_
      exact lc_part l C0 hAe hK hG hP hD hS hl
    · refine lv_tableIn (off := 746) (tgt := 779) hx hb dL_law_33 (by decide) (by decide) (by decide) (by decide) ?_
      exact lc_ask l C0 hAe hK hG hP hD hS hl
    · refine lv_tableIn (off := 779) (tgt := 812) hx hb dL_law_33 (by decide) (by decide) (by decide) (by decide) ?_
      exact lc_stand l C0 hAe hK hG hP hD hS hl
    · refine lv_tableIn (off := 838) (tgt := 871) hx hb dL_law_33 (by decide) (by decide) (by decide) (by decide) ?_
      exact lc_shut l C0 hAe hK hG hP hD hS hl
    · refine lv_tableIn (off := 887) (tgt := 920) hx hb dL_law_33 (by decide) (by decide) (by decide) (by decide) ?_
      exact lc_feed l C0 hAe hK hG hP hD hS hl
    · refine lv_tableIn (off := 920) (tgt := 953) hx hb dL_law_33 (by decide) (by decide) (by decide) (by decide) ?_
      exact lc_wipe l C0 hAe hK hG hP hD hS hl
    · refine lv_tableIn (off := 933) (tgt := 966) hx hb dL_law_33 (by decide) (by decide) (by decide) (by decide) ?_
      exact lc_land l C0 hAe hK hG hP hD hS hl
    · refine lv_tableIn (off := 946) (tgt := 979) hx hb dL_law_33 (by decide) (by decide) (by decide) (by decide) ?_
      exact lc_roadOf l C0 hAe hK hG hP hD hS hl
    · refine lv_tableIn (off := 979) (tgt := 1012) hx hb dL_law_33 (by decide) (by decide) (by decide) (by decide) ?_
      exact lc_bridgeOf l C0 hAe hK hG hP hD hS hl
    · refine lv_tableIn (off := 1012) (tgt := 1045) hx hb dL_law_33 (by decide) (by decide) (by decide) (by decide) ?_
      exact lc_bears l C0 hAe hK hG hP hD hS hl
    · refine lv_tableIn (off := 1061) (tgt := 1094) hx hb dL_law_33 (by decide) (by decide) (by decide) (by decide) ?_
      exact lc_length l C0 hAe hK hG hP hD hS hl
    · refine lv_tableIn (off := 1084) (tgt := 1117) hx hb dL_law_33 (by decide) (by decide) (by decide) (by decide) ?_
      exact lc_axle l C0 hAe hK hG hP hD hS hl
    · refine lv_tableIn (off := 1117) (tgt := 1150) hx hb dL_law_33 (by decide) (by decide) (by decide) (by decide) ?_
      exact lc_strain l C0 hAe hK hG hP hD hS hl
    · refine lv_tableIn (off := 1160) (tgt := 1193) hx hb dL_law_33 (by decide) (by decide) (by decide) (by decide) ?_
      exact lc_needs l C0 hAe hK hG hP hD hS hl
    · refine lv_tableIn (off := 1203) (tgt := 1236) hx hb dL_law_33 (by decide) (by decide) (by decide) (by decide) ?_
      exact lc_goes l C0 hAe hK hG hP hD hS hl
    · refine lv_tableIn (off := 1256) (tgt := 1289) hx hb dL_law_33 (by decide) (by decide) (by decide) (by decide) ?_
      exact lc_cheapest l C0 hAe hK hG hP hD hS hl
    · refine lv_tableIn (off := 1309) (tgt := 1342) hx hb dL_law_33 (by decide) (by decide) (by decide) (by decide) ?_
      exact lc_soonest l C0 hAe hK hG hP hD hS hl
    · refine lv_tableIn (off := 1362) (tgt := 1395) hx hb dL_law_33 (by decide) (by decide) (by decide) (by decide) ?_
      exact lc_again l C0 hAe hK hG hP hD hS hl
    · refine lv_tableIn (off := 1425) (tgt := 1458) hx hb dL_law_33 (by decide) (by decide) (by decide) (by decide) ?_
      exact lc_best l C0 hAe hK hG hP hD hS hl
    · refine lv_tableIn (off := 1468) (tgt := 1501) hx hb dL_law_33 (by decide) (by decide) (by decide) (by decide) ?_
      exact lc_judge l C0 hAe hK hG hP hD hS hl
    · refine lv_tableIn (off := 1531) (tgt := 1564) hx hb dL_law_33 (by decide) (by decide) (by decide) (by decide) ?_
      exact lc_told l C0 hAe hK hG hP hD hS hl
    · refine lv_tableIn (off := 1606) (tgt := 1639) hx hb dL_law_33 (by decide) (by decide) (by decide) (by decide) ?_
      exact lc_reach l C0 hAe hK hG hP hD hS hl
    · refine lv_tableIn (off := 1649) (tgt := 1682) hx hb dL_law_33 (by decide) (by decide) (by decide) (by decide) ?_
      exact lc_hang l C0 hAe hK hG hP hD hS hl
    · refine lv_tableIn (off := 1702) (tgt := 1735) hx hb dL_law_33 (by decide) (by decide) (by decide) (by decide) ?_
      exact lc_fewest l C0 hAe hK hG hP hD hS hl
    · refine lv_tableIn (off := 1745) (tgt := 1778) hx hb dL_law_33 (by decide) (by decide) (by decide) (by decide) ?_
      exact lc_most l C0 hAe hK hG hP hD hS hl
    · refine lv_tableIn (off := 1788) (tgt := 1821) hx hb dL_law_33 (by decide) (by decide) (by decide) (by decide) ?_
      exact lc_frost l C0 hAe hK hG hP hD hS hl
    · refine lv_tableIn (off := 1876) (tgt := 1909) hx hb dL_law_33 (by decide) (by decide) (by decide) (by decide) ?_
      exact lc_begin l C0 hAe hK hG hP hD hS hl
    · refine lv_tableIn (off := 1929) (tgt := 1962) hx hb dL_law_33 (by decide) (by decide) (by decide) (by decide) ?_
      exact lc_step l C0 hAe hK hG hP hD hS hl
    · refine lv_tableIn (off := 1942) (tgt := 1975) hx hb dL_law_33 (by decide) (by decide) (by decide) (by decide) ?_
      exact lc_under l C0 hAe hK hG hP hD hS hl
    · refine lv_tableIn (off := 1965) (tgt := 1998) hx hb dL_law_33 (by decide) (by decide) (by decide) (by decide) ?_
      exact lc_image l C0 hAe hK hG hP hD hS hl
    · refine lv_tableIn (off := 1978) (tgt := 2011) hx hb dL_law_33 (by decide) (by decide) (by decide) (by decide) ?_
      exact lc_back l C0 hAe hK hG hP hD hS hl
    · refine lv_tableIn (off := 1991) (tgt := 2024) hx hb dL_law_33 (by decide) (by decide) (by decide) (by decide) ?_
      exact lc_status l C0 hAe hK hG hP hD hS hl
    · refine lv_tableOut (tgt := 2047) hx hb dL_law_33 (Or.inr (by rw [nI_toInt (by omega)]; omega)) (by decide) ?_
      exact lw_end C0 hAe hS (lv_sub hl [0, 3] rfl) (show 109 ≤ 600000 from Nat.le_of_ble_eq_true rfl) (show 2593 ≤ 7302250 from Nat.le_of_ble_eq_true rfl)
