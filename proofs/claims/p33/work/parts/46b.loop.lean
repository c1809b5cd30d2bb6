set_option maxHeartbeats 4000000 in
set_option maxRecDepth 100000 in
theorem lw_cmp {i L : Nat} (hL : L ≤ 4096) (hi : i ≤ L) : (Int32.ofNat L - 8 < nI i) ↔ ¬ (i + 8 ≤ L) := by
  rw [Int32.lt_iff_toInt_lt, nI_toInt (by omega)]
  have e1 : (Int32.ofNat L).toInt = (L : Int) := nI_toInt (n := L) (by omega)
  have e2 : (Int32.ofNat L - 8).toInt = (L : Int) - 8 := by
    rw [Int32.toInt_sub, e1]
    exact oh_bmod (by show _ ≤ (L : Int) - 8; omega) (by show (L : Int) - 8 ≤ _; omega)
  rw [e2]
  omega
set_option maxHeartbeats 4000000 in
set_option maxRecDepth 100000 in
/-- the law at its loop -/
theorem lw_18 {p : Program} {e : Env} {s : State} {m : MethodId} {below : List Frame} {meth : Method} {c : Code} (l : Launch) {b L : Nat} {xs : Nat → Int32} (C0 : lw_At p s m meth c b L xs) (hL : L ≤ 4096) {D : va_G} {E : Nat → ClassId} {G : Nat → Nat} {A : Nat → Prop} (hAe : A = fun q => s.heap.size ≤ q) (hK : va_K D vwCl (oh_ty E) s) (hG : oh_G G A s) {a : Nat → Nat} : ∀ (d i : Nat) (ma : Nat → Nat) (C M : Nat → va_E) (n cN sN : Nat) (H : Heap) (locs : List Loc) (ls : Array Slot), L - i = d → i ≤ L → TyX a E C → TyM ma E M → RelM M → KEPT E n ma M → gi (C 5) 1 = gi (M 0) 7 → (gi (C 0) 2 = 0 ↔ n = 74) → ga (C 32) = ga (M 7) → (∃ (A0 : LA) (T0 : TP), absX 10 C A0 ∧ absM M A0 ∧ okA A0 ∧ absTX 1 16 C T0 ∧ absTM M T0 ∧ ∃ (S0 : HZ) (Z0 : EZ), absHX C S0 ∧ absHM M S0 ∧ absEX C S0 Z0 ∧ absEM M S0 Z0) → TIEK n C M → cN ≤ 35 + n → sN ≤ 1477 + 16 * n → va_P D vwCl (oh_W 35 a C ++ oh_W n ma M) H → va_D A (oh_W 35 a C ++ oh_W n ma M) → va_S A s.heap H locs → lv_has ls 4 [(3, .int (nI i)), (2, .ref (ma 0)), (1, .ref (a 0)), (0, .ref b)] → W p l e room_1 s m #[Value.ref b] below meth c H locs cN sN (lw_Z below #[Value.ref b] s) (F0 m 18 ls []) := by
  obtain ⟨hx, hb, hr, hml, hown, hts, hX, hbl, hlocks, hgv⟩ := id C0
  have hbA : ¬ A b := by rw [hAe]; exact Nat.not_le.mpr hbl
  intro d
  induction d using Nat.strongRecOn with
  | ind d ih =>
    intro i ma C M n cN sN H locs ls hd hiL hT hTM hR hkp ht1 ht2 ht3 htA htK hcN hsN hP hD hS hl
    have hn8 := hkp.le.2
    refine lv_iload_n hx hb dL_law_18 rfl (lv_at hl 0 rfl) ?_
    refine lv_aload_n hx hb dL_law_19 rfl (lv_at hl 3 rfl) ?_
    refine va_slen hx hb hX hbl hbA hS dL_law_20 ?_
    refine lv_bipush (v := 8) hx hb dL_law_21 (by decide) ?_
    refine lv_isub hx hb dL_law_23 ?_
    by_cases h8 : i + 8 ≤ L
    · refine lv_icmp_gt (tgt := 2051) hx hb dL_law_24 (by decide) (fun c => absurd h8 ((lw_cmp hL hiL).mp c)) (fun _ => ?_)
      refine lv_aload_n hx hb dL_law_27 rfl (lv_at hl 3 rfl) ?_
      refine lv_iload_n hx hb dL_law_28 rfl (lv_at hl 0 rfl) ?_
      refine va_sld hx hb hX hbl hbA hS (vp_in_nI (by omega) (by omega)) dL_law_29 ?_
      refine lv_bipush (v := 63) hx hb dL_law_30 (by decide) ?_
      refine lv_iand hx hb dL_law_32 ?_
      have nxt : ∀ (ma : Nat → Nat) (C M : Nat → va_E) (n cN sN : Nat) (H : Heap) (locs : List Loc) (ls : Array Slot), TyX a E C → TyM ma E M → RelM M → KEPT E n ma M → gi (C 5) 1 = gi (M 0) 7 → (gi (C 0) 2 = 0 ↔ n = 74) → ga (C 32) = ga (M 7) → (∃ (A0 : LA) (T0 : TP), absX 10 C A0 ∧ absM M A0 ∧ okA A0 ∧ absTX 1 16 C T0 ∧ absTM M T0 ∧ ∃ (S0 : HZ) (Z0 : EZ), absHX C S0 ∧ absHM M S0 ∧ absEX C S0 Z0 ∧ absEM M S0 Z0) → TIEK n C M → cN ≤ 35 + n → sN ≤ 1477 + 16 * n → va_P D vwCl (oh_W 35 a C ++ oh_W n ma M) H → va_D A (oh_W 35 a C ++ oh_W n ma M) → va_S A s.heap H locs → lv_has ls 4 [(3, .int (nI i)), (2, .ref (ma 0)), (1, .ref (a 0)), (0, .ref b)] → W p l e room_1 s m #[Value.ref b] below meth c H locs cN sN (lw_Z below #[Value.ref b] s) (F0 m 2045 ls []) := by
        intro ma C M n cN sN H locs ls hT hTM hR hkp ht1 ht2 ht3 htA htK hcN hsN hP hD hS hl
        refine lv_iinc (v := nI (i + 8)) (lv' := [(3, .int (nI (i + 8))), (2, .ref (ma 0)), (1, .ref (a 0)), (0, .ref b)]) hx hb dL_law_2045 hl (k := 0) rfl (by exact nI_add i 8) (by decide) rfl (fun ls hl => ?_)
        refine lv_goto (tgt := 18) hx hb dL_law_2048 (by decide) ?_
        exact ih (L - (i + 8)) (by omega) (i + 8) ma C M n cN sN H locs ls rfl h8 hT hTM hR hkp ht1 ht2 ht3 htA htK hcN hsN hP hD hS hl
      obtain ⟨j, hj, ej⟩ := pk_andE (xs (nI i).toNatClampNeg) (m := 63) 6 (by decide)
      rw [ej]
      rcases (show j = 0 ∨ j = 1 ∨ j = 2 ∨ j = 3 ∨ j = 4 ∨ j = 5 ∨ j = 6 ∨ j = 7 ∨ j = 8 ∨ j = 9 ∨ j = 10 ∨ j = 11 ∨ j = 12 ∨ j = 13 ∨ j = 14 ∨ j = 15 ∨ j = 16 ∨ j = 17 ∨ j = 18 ∨ j = 19 ∨ j = 20 ∨ j = 21 ∨ j = 22 ∨ j = 23 ∨ j = 24 ∨ j = 25 ∨ j = 26 ∨ j = 27 ∨ j = 28 ∨ j = 29 ∨ j = 30 ∨ j = 31 ∨ j = 32 ∨ j = 33 ∨ j = 34 ∨ j = 35 ∨ j = 36 ∨ j = 37 ∨ j = 38 ∨ j = 39 ∨ j = 40 ∨ j = 41 ∨ j = 42 ∨ 43 ≤ j by omega) with rfl | rfl | rfl | rfl | rfl | rfl | rfl | rfl | rfl | rfl | rfl | rfl | rfl | rfl | rfl | rfl | rfl | rfl | rfl | rfl | rfl | rfl | rfl | rfl | rfl | rfl | rfl | rfl | rfl | rfl | rfl | rfl | rfl | rfl | rfl | rfl | rfl | rfl | rfl | rfl | rfl | rfl | rfl | h43
      · refine lv_tableIn (off := 187) (tgt := 220) hx hb dL_law_33 (by decide) (by decide) (by decide) (by decide) ?_
        exact lc_row l C0 hL hAe hK hG h8 hT hTM hR hkp ht1 ht2 ht3 htA htK hcN hsN hP hD hS hl nxt
      · refine lv_tableIn (off := 230) (tgt := 263) hx hb dL_law_33 (by decide) (by decide) (by decide) (by decide) ?_
        exact lc_set l C0 hL hAe hK hG h8 hT hTM hR hkp ht1 ht2 ht3 htA htK hcN hsN hP hD hS hl nxt
      · refine lv_tableIn (off := 303) (tgt := 336) hx hb dL_law_33 (by decide) (by decide) (by decide) (by decide) ?_
        exact lc_copy l C0 hL hAe hK hG h8 hT hTM hR hkp ht1 ht2 ht3 htA htK hcN hsN hP hD hS hl nxt
      · refine lv_tableIn (off := 366) (tgt := 399) hx hb dL_law_33 (by decide) (by decide) (by decide) (by decide) ?_
        exact lc_element l C0 hL hAe hK hG h8 hT hTM hR hkp ht1 ht2 ht3 htA htK hcN hsN hP hD hS hl nxt
      · refine lv_tableIn (off := 399) (tgt := 432) hx hb dL_law_33 (by decide) (by decide) (by decide) (by decide) ?_
        exact lc_holds l C0 hL hAe hK hG h8 hT hTM hR hkp ht1 ht2 ht3 htA htK hcN hsN hP hD hS hl nxt
      · refine lv_tableIn (off := 422) (tgt := 455) hx hb dL_law_33 (by decide) (by decide) (by decide) (by decide) ?_
        exact lc_show l C0 hL hAe hK hG h8 hT hTM hR hkp ht1 ht2 ht3 htA htK hcN hsN hP hD hS hl nxt
      · refine lv_tableIn (off := 455) (tgt := 488) hx hb dL_law_33 (by decide) (by decide) (by decide) (by decide) ?_
        exact lc_says l C0 hL hAe hK hG h8 hT hTM hR hkp ht1 ht2 ht3 htA htK hcN hsN hP hD hS hl nxt
      · refine lv_tableIn (off := 488) (tgt := 521) hx hb dL_law_33 (by decide) (by decide) (by decide) (by decide) ?_
        exact lc_road l C0 hL hAe hK hG h8 hT hTM hR hkp ht1 ht2 ht3 htA htK hcN hsN hP hD hS hl nxt
      · refine lv_tableIn (off := 563) (tgt := 596) hx hb dL_law_33 (by decide) (by decide) (by decide) (by decide) ?_
        exact lc_bridge l C0 hL hAe hK hG h8 hT hTM hR hkp ht1 ht2 ht3 htA htK hcN hsN hP hD hS hl nxt
      · refine lv_tableIn (off := 626) (tgt := 659) hx hb dL_law_33 (by decide) (by decide) (by decide) (by decide) ?_
        exact lc_prop l C0 hL hAe hK hG h8 hT hTM hR hkp ht1 ht2 ht3 htA htK hcN hsN hP hD hS hl nxt
      · refine lv_tableIn (off := 669) (tgt := 702) hx hb dL_law_33 (by decide) (by decide) (by decide) (by decide) ?_
        exact lc_waggon l C0 hL hAe hK hG h8 hT hTM hR hkp ht1 ht2 ht3 htA htK hcN hsN hP hD hS hl nxt
      · refine lv_tableIn (off := 712) (tgt := 745) hx hb dL_law_33 (by decide) (by decide) (by decide) (by decide) ?_
        exact lc_part l C0 hL hAe hK hG h8 hT hTM hR hkp ht1 ht2 ht3 htA htK hcN hsN hP hD hS hl nxt
      · refine lv_tableIn (off := 745) (tgt := 778) hx hb dL_law_33 (by decide) (by decide) (by decide) (by decide) ?_
        exact lc_ask l C0 hL hAe hK hG h8 hT hTM hR hkp ht1 ht2 ht3 htA htK hcN hsN hP hD hS hl nxt
      · refine lv_tableIn (off := 778) (tgt := 811) hx hb dL_law_33 (by decide) (by decide) (by decide) (by decide) ?_
        exact lc_stand l C0 hL hAe hK hG h8 hT hTM hR hkp ht1 ht2 ht3 htA htK hcN hsN hP hD hS hl nxt
      · refine lv_tableIn (off := 837) (tgt := 870) hx hb dL_law_33 (by decide) (by decide) (by decide) (by decide) ?_
        exact lc_shut l C0 hL hAe hK hG h8 hT hTM hR hkp ht1 ht2 ht3 htA htK hcN hsN hP hD hS hl nxt
      · refine lv_tableIn (off := 886) (tgt := 919) hx hb dL_law_33 (by decide) (by decide) (by decide) (by decide) ?_
        exact lc_feed l C0 hL hAe hK hG h8 hT hTM hR hkp ht1 ht2 ht3 htA htK hcN hsN hP hD hS hl nxt
      · refine lv_tableIn (off := 919) (tgt := 952) hx hb dL_law_33 (by decide) (by decide) (by decide) (by decide) ?_
        exact lc_wipe l C0 hL hAe hK hG h8 hT hTM hR hkp ht1 ht2 ht3 htA htK hcN hsN hP hD hS hl nxt
      · refine lv_tableIn (off := 932) (tgt := 965) hx hb dL_law_33 (by decide) (by decide) (by decide) (by decide) ?_
        exact lc_land l C0 hL hAe hK hG h8 hT hTM hR hkp ht1 ht2 ht3 htA htK hcN hsN hP hD hS hl nxt
      · refine lv_tableIn (off := 945) (tgt := 978) hx hb dL_law_33 (by decide) (by decide) (by decide) (by decide) ?_
        exact lc_roadOf l C0 hL hAe hK hG h8 hT hTM hR hkp ht1 ht2 ht3 htA htK hcN hsN hP hD hS hl nxt
      · refine lv_tableIn (off := 978) (tgt := 1011) hx hb dL_law_33 (by decide) (by decide) (by decide) (by decide) ?_
        exact lc_bridgeOf l C0 hL hAe hK hG h8 hT hTM hR hkp ht1 ht2 ht3 htA htK hcN hsN hP hD hS hl nxt
      · refine lv_tableIn (off := 1011) (tgt := 1044) hx hb dL_law_33 (by decide) (by decide) (by decide) (by decide) ?_
        exact lc_bears l C0 hL hAe hK hG h8 hT hTM hR hkp ht1 ht2 ht3 htA htK hcN hsN hP hD hS hl nxt
      · refine lv_tableIn (off := 1060) (tgt := 1093) hx hb dL_law_33 (by decide) (by decide) (by decide) (by decide) ?_
        exact lc_length l C0 hL hAe hK hG h8 hT hTM hR hkp ht1 ht2 ht3 htA htK hcN hsN hP hD hS hl nxt
      · refine lv_tableIn (off := 1083) (tgt := 1116) hx hb dL_law_33 (by decide) (by decide) (by decide) (by decide) ?_
        exact lc_axle l C0 hL hAe hK hG h8 hT hTM hR hkp ht1 ht2 ht3 htA htK hcN hsN hP hD hS hl nxt
      · refine lv_tableIn (off := 1116) (tgt := 1149) hx hb dL_law_33 (by decide) (by decide) (by decide) (by decide) ?_
        exact lc_strain l C0 hL hAe hK hG h8 hT hTM hR hkp ht1 ht2 ht3 htA htK hcN hsN hP hD hS hl nxt
      · refine lv_tableIn (off := 1159) (tgt := 1192) hx hb dL_law_33 (by decide) (by decide) (by decide) (by decide) ?_
        exact lc_needs l C0 hL hAe hK hG h8 hT hTM hR hkp ht1 ht2 ht3 htA htK hcN hsN hP hD hS hl nxt
      · refine lv_tableIn (off := 1202) (tgt := 1235) hx hb dL_law_33 (by decide) (by decide) (by decide) (by decide) ?_
        exact lc_goes l C0 hL hAe hK hG h8 hT hTM hR hkp ht1 ht2 ht3 htA htK hcN hsN hP hD hS hl nxt
      · refine lv_tableIn (off := 1255) (tgt := 1288) hx hb dL_law_33 (by decide) (by decide) (by decide) (by decide) ?_
        exact lc_cheapest l C0 hL hAe hK hG h8 hT hTM hR hkp ht1 ht2 ht3 htA htK hcN hsN hP hD hS hl nxt
      · refine lv_tableIn (off := 1308) (tgt := 1341) hx hb dL_law_33 (by decide) (by decide) (by decide) (by decide) ?_
        exact lc_soonest l C0 hL hAe hK hG h8 hT hTM hR hkp ht1 ht2 ht3 htA htK hcN hsN hP hD hS hl nxt
      · refine lv_tableIn (off := 1361) (tgt := 1394) hx hb dL_law_33 (by decide) (by decide) (by decide) (by decide) ?_
        exact lc_again l C0 hL hAe hK hG h8 hT hTM hR hkp ht1 ht2 ht3 htA htK hcN hsN hP hD hS hl nxt
      · refine lv_tableIn (off := 1424) (tgt := 1457) hx hb dL_law_33 (by decide) (by decide) (by decide) (by decide) ?_
        exact lc_best l C0 hL hAe hK hG h8 hT hTM hR hkp ht1 ht2 ht3 htA htK hcN hsN hP hD hS hl nxt
      · refine lv_tableIn (off := 1467) (tgt := 1500) hx hb dL_law_33 (by decide) (by decide) (by decide) (by decide) ?_
        exact lc_judge l C0 hL hAe hK hG h8 hT hTM hR hkp ht1 ht2 ht3 htA htK hcN hsN hP hD hS hl nxt
      · refine lv_tableIn (off := 1530) (tgt := 1563) hx hb dL_law_33 (by decide) (by decide) (by decide) (by decide) ?_
        exact lc_told l C0 hL hAe hK hG h8 hT hTM hR hkp ht1 ht2 ht3 htA htK hcN hsN hP hD hS hl nxt
      · refine lv_tableIn (off := 1605) (tgt := 1638) hx hb dL_law_33 (by decide) (by decide) (by decide) (by decide) ?_
        exact lc_reach l C0 hL hAe hK hG h8 hT hTM hR hkp ht1 ht2 ht3 htA htK hcN hsN hP hD hS hl nxt
      · refine lv_tableIn (off := 1648) (tgt := 1681) hx hb dL_law_33 (by decide) (by decide) (by decide) (by decide) ?_
        exact lc_hang l C0 hL hAe hK hG h8 hT hTM hR hkp ht1 ht2 ht3 htA htK hcN hsN hP hD hS hl nxt
      · refine lv_tableIn (off := 1701) (tgt := 1734) hx hb dL_law_33 (by decide) (by decide) (by decide) (by decide) ?_
        exact lc_fewest l C0 hL hAe hK hG h8 hT hTM hR hkp ht1 ht2 ht3 htA htK hcN hsN hP hD hS hl nxt
      · refine lv_tableIn (off := 1744) (tgt := 1777) hx hb dL_law_33 (by decide) (by decide) (by decide) (by decide) ?_
        exact lc_most l C0 hL hAe hK hG h8 hT hTM hR hkp ht1 ht2 ht3 htA htK hcN hsN hP hD hS hl nxt
      · refine lv_tableIn (off := 1787) (tgt := 1820) hx hb dL_law_33 (by decide) (by decide) (by decide) (by decide) ?_
        exact lc_frost l C0 hL hAe hK hG h8 hT hTM hR hkp ht1 ht2 ht3 htA htK hcN hsN hP hD hS hl nxt
      · refine lv_tableIn (off := 1874) (tgt := 1907) hx hb dL_law_33 (by decide) (by decide) (by decide) (by decide) ?_
        exact lc_begin l C0 hL hAe hK hG h8 hT hTM hR hkp ht1 ht2 ht3 htA htK hcN hsN hP hD hS hl nxt
      · refine lv_tableIn (off := 1927) (tgt := 1960) hx hb dL_law_33 (by decide) (by decide) (by decide) (by decide) ?_
        exact lc_step l C0 hL hAe hK hG h8 hT hTM hR hkp ht1 ht2 ht3 htA htK hcN hsN hP hD hS hl nxt
      · refine lv_tableIn (off := 1940) (tgt := 1973) hx hb dL_law_33 (by decide) (by decide) (by decide) (by decide) ?_
        exact lc_under l C0 hL hAe hK hG h8 hT hTM hR hkp ht1 ht2 ht3 htA htK hcN hsN hP hD hS hl nxt
      · refine lv_tableIn (off := 1963) (tgt := 1996) hx hb dL_law_33 (by decide) (by decide) (by decide) (by decide) ?_
        exact lc_image l C0 hL hAe hK hG h8 hT hTM hR hkp ht1 ht2 ht3 htA htK hcN hsN hP hD hS hl nxt
      · refine lv_tableIn (off := 1976) (tgt := 2009) hx hb dL_law_33 (by decide) (by decide) (by decide) (by decide) ?_
        exact lc_back l C0 hL hAe hK hG h8 hT hTM hR hkp ht1 ht2 ht3 htA htK hcN hsN hP hD hS hl nxt
      · refine lv_tableIn (off := 1989) (tgt := 2022) hx hb dL_law_33 (by decide) (by decide) (by decide) (by decide) ?_
        exact lc_status l C0 hL hAe hK hG h8 hT hTM hR hkp ht1 ht2 ht3 htA htK hcN hsN hP hD hS hl nxt
      · refine lv_tableOut (tgt := 2045) hx hb dL_law_33 (Or.inr (by rw [nI_toInt (by omega)]; omega)) (by decide) ?_
        exact nxt ma C M n cN sN H locs ls hT hTM hR hkp ht1 ht2 ht3 htA htK hcN hsN hP hD hS hl
    · refine lv_icmp_gt (tgt := 2051) hx hb dL_law_24 (by decide) (fun _ => ?_) (fun c => absurd ((lw_cmp hL hiL).mpr h8) c)
      refine lv_iconst (v := 1) hx hb dL_law_2051 (by decide) ?_
      refine va_forget (fun q hq => by have h := hS.2.2 q hq; rw [hAe] at h; exact h) ?_
      refine W.widen (k := 600000) (n := 7302250) (by omega) (by omega) ?_
      exact lw_ret hx hb hr hlocks dL_law_2052
