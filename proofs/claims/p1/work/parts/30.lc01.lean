set_option maxHeartbeats 4000000 in
set_option maxRecDepth 100000 in
/-- the law at one call of shut -/
theorem lc_shut {p : Program} {e : Env} {s : State} {m : MethodId} {below : List Frame} {meth : Method} {c : Code} (l : Launch) {b : Nat} {xs : Nat → Int32} (C0 : lw_At p s m meth c b 8 xs) {D : va_G} {E : Nat → ClassId} {G : Nat → Nat} {A : Nat → Prop} (hAe : A = fun q => s.heap.size ≤ q) (hK : va_K D vwCl (oh_ty E) s) (hG : oh_G G A s) {xa ma r1 r2 r3 r4 r5 : Nat → Nat} {H : Heap} {locs : List Loc} (hP : va_P D vwCl (lw_x E xa ++ lw_m E ma r1 r2 r3 r4 r5) H) (hD : va_D A (lw_x E xa ++ lw_m E ma r1 r2 r3 r4 r5)) (hS : va_S A s.heap H locs) {ls : Array Slot} (hl : lv_has ls 4 [(3, .int 0), (2, .ref (ma 0)), (1, .ref (xa 0)), (0, .ref b)]) : W p l e room_1 s m #[Value.ref b] below meth c H locs 109 2593 (lw_Z below #[Value.ref b] s) (F0 m 871 ls []) := by
  obtain ⟨hx, hb, hr, hml, hown, hts, hX, hbl, hlocks, hgv⟩ := id C0
  have hown : s.vm.findClass RL = some m.cls := hown
  have htg : ∀ w ∈ oh_t, w.before _ s = true := fun w h => hts w (List.mem_filter.mp h).1
  have hA : ∀ q, s.heap.size ≤ q → A q := fun q h => by rw [hAe]; exact h
  have hbA : ¬ A b := by rw [hAe]; exact Nat.not_le.mpr hbl
  refine lv_aload_n hx hb dL_law_871 rfl (lv_at hl 2 rfl) ?_
  refine lv_aload_n hx hb dL_law_872 rfl (lv_at hl 3 rfl) ?_
  refine lv_iload_n hx hb dL_law_873 rfl (lv_at hl 0 rfl) ?_
  refine lv_iconst (v := 1) hx hb dL_law_874 (by decide) ?_
  refine lv_iadd hx hb dL_law_875 ?_
  refine oh_nrm (v := 1) (by decide) ?_
  refine va_sld hx hb hX hbl hbA hS (show vp_in 1 8 by unfold vp_in; decide) dL_law_876 ?_
  refine oh_nrm (v := xs 1) rfl ?_
  refine lv_aload_n hx hb dL_law_877 rfl (lv_at hl 3 rfl) ?_
  refine lv_iload_n hx hb dL_law_878 rfl (lv_at hl 0 rfl) ?_
  refine lv_iconst (v := 2) hx hb dL_law_879 (by decide) ?_
  refine lv_iadd hx hb dL_law_880 ?_
  refine oh_nrm (v := 2) (by decide) ?_
  refine va_sld hx hb hX hbl hbA hS (show vp_in 2 8 by unfold vp_in; decide) dL_law_881 ?_
  refine oh_nrm (v := xs 2) rfl ?_
  refine lv_if_eq (tgt := 889) hx hb dL_law_882 (by decide) (fun (c_1 : (xs 2) = 0) => ?_) (fun (c_1 : ¬ ((xs 2) = 0)) => ?_)
  · refine lv_iconst (v := 0) hx hb dL_law_889 (by decide) ?_
    refine oh_lV (wx := lw_x E xa) (wm := lw_m E ma r1 r2 r3 r4 r5) (As := [.int (xs 1), .int 0]) (rest := []) ⟨hx, hb, hml, hown, htg⟩ (c_X6_shut l D E G H.size (xa 0) (xs 1) 0 (xa 1) (xa 9) (xa 17) (xa 24) (xa 28) (xa 30) (xa 33) (xa 34) (xa 2) (xa 3) (xa 4) (xa 5) (xa 6) (xa 7) (xa 8)) (cwV 2 htg (oh_gV q_475 q_476 q_477 q_66 q_478) rfl rfl rfl pdVX6_shut ⟨Nat.le_of_ble_eq_true rfl, Nat.le_of_ble_eq_true rfl⟩) hK hP hD hG hS hA [0, 1, 2, 33] rfl (by decide) (show ∀ i ∈ ([0, 1, 2, 33] : List Nat), i < 35 by decide) (va_recv hK hP (ci := 6) (q0 := 0) rfl rfl) rfl hl.1 rfl (Nat.le_of_ble_eq_true rfl) dL_law_890 ⟨(show 109 ≤ 600000 from Nat.le_of_ble_eq_true rfl), (show 2593 ≤ 7302250 from Nat.le_of_ble_eq_true rfl)⟩ (fun r_1 u H locs hw hP hD hS => ?_)
    subst hw
    refine W.widen (k := 109) (n := 2593) (Nat.le_refl _) (Nat.le_refl _) ?_
    refine lv_aload_n hx hb dL_law_893 rfl (lv_at hl 1 rfl) ?_
    refine lv_aload_n hx hb dL_law_894 rfl (lv_at hl 3 rfl) ?_
    refine lv_iload_n hx hb dL_law_895 rfl (lv_at hl 0 rfl) ?_
    refine lv_iconst (v := 1) hx hb dL_law_896 (by decide) ?_
    refine lv_iadd hx hb dL_law_897 ?_
    refine oh_nrm (v := 1) (by decide) ?_
    refine va_sld hx hb hX hbl hbA hS (show vp_in 1 8 by unfold vp_in; decide) dL_law_898 ?_
    refine oh_nrm (v := xs 1) rfl ?_
    refine lv_aload_n hx hb dL_law_899 rfl (lv_at hl 3 rfl) ?_
    refine lv_iload_n hx hb dL_law_900 rfl (lv_at hl 0 rfl) ?_
    refine lv_iconst (v := 2) hx hb dL_law_901 (by decide) ?_
    refine lv_iadd hx hb dL_law_902 ?_
    refine oh_nrm (v := 2) (by decide) ?_
    refine va_sld hx hb hX hbl hbA hS (show vp_in 2 8 by unfold vp_in; decide) dL_law_903 ?_
    refine oh_nrm (v := xs 2) rfl ?_
    refine lv_if_eq (tgt := 911) hx hb dL_law_904 (by decide) (fun (c_2 : (xs 2) = 0) => ?_) (fun (c_2 : ¬ ((xs 2) = 0)) => ?_)
    · refine lv_iconst (v := 0) hx hb dL_law_911 (by decide) ?_
      refine oh_mV (wr := []) (As := [.int (xs 1), .int 0]) (rest := [.int (-2)]) ⟨hx, hb, hml, hown, htg⟩ (c_X7_shut l D E G H.size (ma 0) (xs 1) 0 (ma 1) (ma 2) (ma 3) (ma 4) (ma 5) (ma 6) (ma 7) (ma 8) (ma 9) (ma 10) (ma 11) (ma 12) (ma 13) (ma 14) (ma 15)) (cwV 2 htg (oh_gV q_1177 q_1178 q_1179 q_73 q_1180) rfl rfl rfl pdVX7_shut ⟨Nat.le_of_ble_eq_true rfl, Nat.le_of_ble_eq_true rfl⟩) hK hP hD hG hS hA [0, 8] [] rfl rfl (by decide) (by decide) (by decide) (va_recv hK hP (ci := 7) (q0 := 0) rfl rfl) rfl hl.1 rfl (Nat.le_of_ble_eq_true rfl) dL_law_912 ⟨(show 109 ≤ 600000 from Nat.le_of_ble_eq_true rfl), (show 2593 ≤ 7302250 from Nat.le_of_ble_eq_true rfl)⟩ (fun r_2 u H locs hw hP hD hS => ?_)
      subst hw
      refine W.widen (k := 109) (n := 2593) (Nat.le_refl _) (Nat.le_refl _) ?_
      refine lv_icmp_eq (tgt := 2047) hx hb dL_law_915 (by decide) (fun _ => ?_) (fun c => absurd (show (-2 : Int32) = (-2) from by decide) c)
      exact lw_end C0 hAe hS (lv_sub hl [0, 3] rfl) (show 109 ≤ 600000 from Nat.le_of_ble_eq_true rfl) (show 2593 ≤ 7302250 from Nat.le_of_ble_eq_true rfl)
    · refine lv_iconst (v := 1) hx hb dL_law_907 (by decide) ?_
      refine lv_goto (tgt := 912) hx hb dL_law_908 (by decide) ?_
      refine oh_mV (wr := []) (As := [.int (xs 1), .int 1]) (rest := [.int (-2)]) ⟨hx, hb, hml, hown, htg⟩ (c_X7_shut l D E G H.size (ma 0) (xs 1) 1 (ma 1) (ma 2) (ma 3) (ma 4) (ma 5) (ma 6) (ma 7) (ma 8) (ma 9) (ma 10) (ma 11) (ma 12) (ma 13) (ma 14) (ma 15)) (cwV 2 htg (oh_gV q_1177 q_1178 q_1179 q_73 q_1180) rfl rfl rfl pdVX7_shut ⟨Nat.le_of_ble_eq_true rfl, Nat.le_of_ble_eq_true rfl⟩) hK hP hD hG hS hA [0, 8] [] rfl rfl (by decide) (by decide) (by decide) (va_recv hK hP (ci := 7) (q0 := 0) rfl rfl) rfl hl.1 rfl (Nat.le_of_ble_eq_true rfl) dL_law_912 ⟨(show 109 ≤ 600000 from Nat.le_of_ble_eq_true rfl), (show 2593 ≤ 7302250 from Nat.le_of_ble_eq_true rfl)⟩ (fun r_3 u H locs hw hP hD hS => ?_)
      subst hw
      refine W.widen (k := 109) (n := 2593) (Nat.le_refl _) (Nat.le_refl _) ?_
      refine lv_icmp_eq (tgt := 2047) hx hb dL_law_915 (by decide) (fun _ => ?_) (fun c => absurd (show (-2 : Int32) = (-2) from by decide) c)
      exact lw_end C0 hAe hS (lv_sub hl [0, 3] rfl) (show 109 ≤ 600000 from Nat.le_of_ble_eq_true rfl) (show 2593 ≤ 7302250 from Nat.le_of_ble_eq_true rfl)
  · refine lv_iconst (v := 1) hx hb dL_law_885 (by decide) ?_
    refine lv_goto (tgt := 890) hx hb dL_law_886 (by decide) ?_
    refine oh_lV (wx := lw_x E xa) (wm := lw_m E ma r1 r2 r3 r4 r5) (As := [.int (xs 1), .int 1]) (rest := []) ⟨hx, hb, hml, hown, htg⟩ (c_X6_shut l D E G H.size (xa 0) (xs 1) 1 (xa 1) (xa 9) (xa 17) (xa 24) (xa 28) (xa 30) (xa 33) (xa 34) (xa 2) (xa 3) (xa 4) (xa 5) (xa 6) (xa 7) (xa 8)) (cwV 2 htg (oh_gV q_475 q_476 q_477 q_66 q_478) rfl rfl rfl pdVX6_shut ⟨Nat.le_of_ble_eq_true rfl, Nat.le_of_ble_eq_true rfl⟩) hK hP hD hG hS hA [0, 1, 2, 33] rfl (by decide) (show ∀ i ∈ ([0, 1, 2, 33] : List Nat), i < 35 by decide) (va_recv hK hP (ci := 6) (q0 := 0) rfl rfl) rfl hl.1 rfl (Nat.le_of_ble_eq_true rfl) dL_law_890 ⟨(show 109 ≤ 600000 from Nat.le_of_ble_eq_true rfl), (show 2593 ≤ 7302250 from Nat.le_of_ble_eq_true rfl)⟩ (fun r_4 u H locs hw hP hD hS => ?_)
    subst hw
    refine W.widen (k := 109) (n := 2593) (Nat.le_refl _) (Nat.le_refl _) ?_
    refine lv_aload_n hx hb dL_law_893 rfl (lv_at hl 1 rfl) ?_
    refine lv_aload_n hx hb dL_law_894 rfl (lv_at hl 3 rfl) ?_
    refine lv_iload_n hx hb dL_law_895 rfl (lv_at hl 0 rfl) ?_
    refine lv_iconst (v := 1) hx hb dL_law_896 (by decide) ?_
    refine lv_iadd hx hb dL_law_897 ?_
    refine oh_nrm (v := 1) (by decide) ?_
    refine va_sld hx hb hX hbl hbA hS (show vp_in 1 8 by unfold vp_in; decide) dL_law_898 ?_
    refine oh_nrm (v := xs 1) rfl ?_
    refine lv_aload_n hx hb dL_law_899 rfl (lv_at hl 3 rfl) ?_
    refine lv_iload_n hx hb dL_law_900 rfl (lv_at hl 0 rfl) ?_
    refine lv_iconst (v := 2) hx hb dL_law_901 (by decide) ?_
    refine lv_iadd hx hb dL_law_902 ?_
    refine oh_nrm (v := 2) (by decide) ?_
    refine va_sld hx hb hX hbl hbA hS (show vp_in 2 8 by unfold vp_in; decide) dL_law_903 ?_
    refine oh_nrm (v := xs 2) rfl ?_
    refine lv_if_eq (tgt := 911) hx hb dL_law_904 (by decide) (fun (c_3 : (xs 2) = 0) => ?_) (fun (c_3 : ¬ ((xs 2) = 0)) => ?_)
    · refine lv_iconst (v := 0) hx hb dL_law_911 (by decide) ?_
      refine oh_mV (wr := []) (As := [.int (xs 1), .int 0]) (rest := [.int (-2)]) ⟨hx, hb, hml, hown, htg⟩ (c_X7_shut l D E G H.size (ma 0) (xs 1) 0 (ma 1) (ma 2) (ma 3) (ma 4) (ma 5) (ma 6) (ma 7) (ma 8) (ma 9) (ma 10) (ma 11) (ma 12) (ma 13) (ma 14) (ma 15)) (cwV 2 htg (oh_gV q_1177 q_1178 q_1179 q_73 q_1180) rfl rfl rfl pdVX7_shut ⟨Nat.le_of_ble_eq_true rfl, Nat.le_of_ble_eq_true rfl⟩) hK hP hD hG hS hA [0, 8] [] rfl rfl (by decide) (by decide) (by decide) (va_recv hK hP (ci := 7) (q0 := 0) rfl rfl) rfl hl.1 rfl (Nat.le_of_ble_eq_true rfl) dL_law_912 ⟨(show 109 ≤ 600000 from Nat.le_of_ble_eq_true rfl), (show 2593 ≤ 7302250 from Nat.le_of_ble_eq_true rfl)⟩ (fun r_5 u H locs hw hP hD hS => ?_)
      subst hw
      refine W.widen (k := 109) (n := 2593) (Nat.le_refl _) (Nat.le_refl _) ?_
      refine lv_icmp_eq (tgt := 2047) hx hb dL_law_915 (by decide) (fun _ => ?_) (fun c => absurd (show (-2 : Int32) = (-2) from by decide) c)
      exact lw_end C0 hAe hS (lv_sub hl [0, 3] rfl) (show 109 ≤ 600000 from Nat.le_of_ble_eq_true rfl) (show 2593 ≤ 7302250 from Nat.le_of_ble_eq_true rfl)
    · refine lv_iconst (v := 1) hx hb dL_law_907 (by decide) ?_
      refine lv_goto (tgt := 912) hx hb dL_law_908 (by decide) ?_
      refine oh_mV (wr := []) (As := [.int (xs 1), .int 1]) (rest := [.int (-2)]) ⟨hx, hb, hml, hown, htg⟩ (c_X7_shut l D E G H.size (ma 0) (xs 1) 1 (ma 1) (ma 2) (ma 3) (ma 4) (ma 5) (ma 6) (ma 7) (ma 8) (ma 9) (ma 10) (ma 11) (ma 12) (ma 13) (ma 14) (ma 15)) (cwV 2 htg (oh_gV q_1177 q_1178 q_1179 q_73 q_1180) rfl rfl rfl pdVX7_shut ⟨Nat.le_of_ble_eq_true rfl, Nat.le_of_ble_eq_true rfl⟩) hK hP hD hG hS hA [0, 8] [] rfl rfl (by decide) (by decide) (by decide) (va_recv hK hP (ci := 7) (q0 := 0) rfl rfl) rfl hl.1 rfl (Nat.le_of_ble_eq_true rfl) dL_law_912 ⟨(show 109 ≤ 600000 from Nat.le_of_ble_eq_true rfl), (show 2593 ≤ 7302250 from Nat.le_of_ble_eq_true rfl)⟩ (fun r_6 u H locs hw hP hD hS => ?_)
      subst hw
      refine W.widen (k := 109) (n := 2593) (Nat.le_refl _) (Nat.le_refl _) ?_
      refine lv_icmp_eq (tgt := 2047) hx hb dL_law_915 (by decide) (fun _ => ?_) (fun c => absurd (show (-2 : Int32) = (-2) from by decide) c)
      exact lw_end C0 hAe hS (lv_sub hl [0, 3] rfl) (show 109 ≤ 600000 from Nat.le_of_ble_eq_true rfl) (show 2593 ≤ 7302250 from Nat.le_of_ble_eq_true rfl)
set_option maxHeartbeats 4000000 in
set_option maxRecDepth 100000 in
/-- the law at one call of feed -/
theorem lc_feed {p : Program} {e : Env} {s : State} {m : MethodId} {below : List Frame} {meth : Method} {c : Code} (l : Launch) {b : Nat} {xs : Nat → Int32} (C0 : lw_At p s m meth c b 8 xs) {D : va_G} {E : Nat → ClassId} {G : Nat → Nat} {A : Nat → Prop} (hAe : A = fun q => s.heap.size ≤ q) (hK : va_K D vwCl (oh_ty E) s) (hG : oh_G G A s) {xa ma r1 r2 r3 r4 r5 : Nat → Nat} {H : Heap} {locs : List Loc} (hP : va_P D vwCl (lw_x E xa ++ lw_m E ma r1 r2 r3 r4 r5) H) (hD : va_D A (lw_x E xa ++ lw_m E ma r1 r2 r3 r4 r5)) (hS : va_S A s.heap H locs) {ls : Array Slot} (hl : lv_has ls 4 [(3, .int 0), (2, .ref (ma 0)), (1, .ref (xa 0)), (0, .ref b)]) : W p l e room_1 s m #[Value.ref b] below meth c H locs 109 2593 (lw_Z below #[Value.ref b] s) (F0 m 920 ls []) := by
  obtain ⟨hx, hb, hr, hml, hown, hts, hX, hbl, hlocks, hgv⟩ := id C0
  have hown : s.vm.findClass RL = some m.cls := hown
  have htg : ∀ w ∈ oh_t, w.before _ s = true := fun w h => hts w (List.mem_filter.mp h).1
  have hA : ∀ q, s.heap.size ≤ q → A q := fun q h => by rw [hAe]; exact h
  have hbA : ¬ A b := by rw [hAe]; exact Nat.not_le.mpr hbl
  refine lv_aload_n hx hb dL_law_920 rfl (lv_at hl 2 rfl) ?_
  refine lv_aload_n hx hb dL_law_921 rfl (lv_at hl 3 rfl) ?_
  refine lv_iload_n hx hb dL_law_922 rfl (lv_at hl 0 rfl) ?_
  refine lv_iconst (v := 1) hx hb dL_law_923 (by decide) ?_
  refine lv_iadd hx hb dL_law_924 ?_
  refine oh_nrm (v := 1) (by decide) ?_
  refine va_sld hx hb hX hbl hbA hS (show vp_in 1 8 by unfold vp_in; decide) dL_law_925 ?_
  refine oh_nrm (v := xs 1) rfl ?_
  refine lv_aload_n hx hb dL_law_926 rfl (lv_at hl 3 rfl) ?_
  refine lv_iload_n hx hb dL_law_927 rfl (lv_at hl 0 rfl) ?_
  refine lv_iconst (v := 2) hx hb dL_law_928 (by decide) ?_
  refine lv_iadd hx hb dL_law_929 ?_
  refine oh_nrm (v := 2) (by decide) ?_
  refine va_sld hx hb hX hbl hbA hS (show vp_in 2 8 by unfold vp_in; decide) dL_law_930 ?_
  refine oh_nrm (v := xs 2) rfl ?_
  refine oh_lV (wx := lw_x E xa) (wm := lw_m E ma r1 r2 r3 r4 r5) (As := [.int (xs 1), .int (xs 2)]) (rest := []) ⟨hx, hb, hml, hown, htg⟩ (c_X6_feed l D E G H.size (xa 0) (xs 1) (xs 2) (xa 1) (xa 9) (xa 17) (xa 24) (xa 28) (xa 30) (xa 33) (xa 34) (xa 29)) (cwV 2 htg (oh_gV q_483 q_484 q_485 q_66 q_486) rfl rfl rfl pdVX6_feed ⟨Nat.le_of_ble_eq_true rfl, Nat.le_of_ble_eq_true rfl⟩) hK hP hD hG hS hA [0, 28, 29, 33] rfl (by decide) (show ∀ i ∈ ([0, 28, 29, 33] : List Nat), i < 35 by decide) (va_recv hK hP (ci := 6) (q0 := 0) rfl rfl) rfl hl.1 rfl (Nat.le_of_ble_eq_true rfl) dL_law_931 ⟨(show 109 ≤ 600000 from Nat.le_of_ble_eq_true rfl), (show 2593 ≤ 7302250 from Nat.le_of_ble_eq_true rfl)⟩ (fun r_1 u H locs hw hP hD hS => ?_)
  subst hw
  refine W.widen (k := 109) (n := 2593) (Nat.le_refl _) (Nat.le_refl _) ?_
  refine lv_aload_n hx hb dL_law_934 rfl (lv_at hl 1 rfl) ?_
  refine lv_aload_n hx hb dL_law_935 rfl (lv_at hl 3 rfl) ?_
  refine lv_iload_n hx hb dL_law_936 rfl (lv_at hl 0 rfl) ?_
  refine lv_iconst (v := 1) hx hb dL_law_937 (by decide) ?_
  refine lv_iadd hx hb dL_law_938 ?_
  refine oh_nrm (v := 1) (by decide) ?_
  refine va_sld hx hb hX hbl hbA hS (show vp_in 1 8 by unfold vp_in; decide) dL_law_939 ?_
  refine oh_nrm (v := xs 1) rfl ?_
  refine lv_aload_n hx hb dL_law_940 rfl (lv_at hl 3 rfl) ?_
  refine lv_iload_n hx hb dL_law_941 rfl (lv_at hl 0 rfl) ?_
  refine lv_iconst (v := 2) hx hb dL_law_942 (by decide) ?_
  refine lv_iadd hx hb dL_law_943 ?_
  refine oh_nrm (v := 2) (by decide) ?_
  refine va_sld hx hb hX hbl hbA hS (show vp_in 2 8 by unfold vp_in; decide) dL_law_944 ?_
  refine oh_nrm (v := xs 2) rfl ?_
  refine oh_mV (wr := []) (As := [.int (xs 1), .int (xs 2)]) (rest := [.int (fX6_feed (xs 1) (xs 2))]) ⟨hx, hb, hml, hown, htg⟩ (c_X7_feed l D E G H.size (ma 0) (xs 1) (xs 2) (ma 1) (ma 2) (ma 3) (ma 4) (ma 5) (ma 6) (ma 7) (ma 8) (ma 9) (ma 10) (ma 11) (ma 12) (ma 13) (ma 14) (ma 15)) (cwV 2 htg (oh_gV q_1181 q_1182 q_1183 q_73 q_1184) rfl rfl rfl pdVX7_feed ⟨Nat.le_of_ble_eq_true rfl, Nat.le_of_ble_eq_true rfl⟩) hK hP hD hG hS hA [0, 7, 8] [] rfl rfl (by decide) (by decide) (by decide) (va_recv hK hP (ci := 7) (q0 := 0) rfl rfl) rfl hl.1 rfl (Nat.le_of_ble_eq_true rfl) dL_law_945 ⟨(show 109 ≤ 600000 from Nat.le_of_ble_eq_true rfl), (show 2593 ≤ 7302250 from Nat.le_of_ble_eq_true rfl)⟩ (fun r_2 u H locs hw hP hD hS => ?_)
  subst hw
  refine W.widen (k := 109) (n := 2593) (Nat.le_refl _) (Nat.le_refl _) ?_
  refine lv_icmp_eq (tgt := 2047) hx hb dL_law_948 (by decide) (fun _ => ?_) (fun c => absurd (show (fX6_feed (xs 1) (xs 2)) = (fX7_feed (xs 1) (xs 2)) from eq_feed (xs 1) (xs 2)) c)
  exact lw_end C0 hAe hS (lv_sub hl [0, 3] rfl) (show 109 ≤ 600000 from Nat.le_of_ble_eq_true rfl) (show 2593 ≤ 7302250 from Nat.le_of_ble_eq_true rfl)
set_option maxHeartbeats 4000000 in
set_option maxRecDepth 100000 in
/-- the law at one call of wipe -/
theorem lc_wipe {p : Program} {e : Env} {s : State} {m : MethodId} {below : List Frame} {meth : Method} {c : Code} (l : Launch) {b : Nat} {xs : Nat → Int32} (C0 : lw_At p s m meth c b 8 xs) {D : va_G} {E : Nat → ClassId} {G : Nat → Nat} {A : Nat → Prop} (hAe : A = fun q => s.heap.size ≤ q) (hK : va_K D vwCl (oh_ty E) s) (hG : oh_G G A s) {xa ma r1 r2 r3 r4 r5 : Nat → Nat} {H : Heap} {locs : List Loc} (hP : va_P D vwCl (lw_x E xa ++ lw_m E ma r1 r2 r3 r4 r5) H) (hD : va_D A (lw_x E xa ++ lw_m E ma r1 r2 r3 r4 r5)) (hS : va_S A s.heap H locs) {ls : Array Slot} (hl : lv_has ls 4 [(3, .int 0), (2, .ref (ma 0)), (1, .ref (xa 0)), (0, .ref b)]) : W p l e room_1 s m #[Value.ref b] below meth c H locs 109 2593 (lw_Z below #[Value.ref b] s) (F0 m 953 ls []) := by
  obtain ⟨hx, hb, hr, hml, hown, hts, hX, hbl, hlocks, hgv⟩ := id C0
  have hown : s.vm.findClass RL = some m.cls := hown
  have htg : ∀ w ∈ oh_t, w.before _ s = true := fun w h => hts w (List.mem_filter.mp h).1
  have hA : ∀ q, s.heap.size ≤ q → A q := fun q h => by rw [hAe]; exact h
  have hbA : ¬ A b := by rw [hAe]; exact Nat.not_le.mpr hbl
  refine lv_aload_n hx hb dL_law_953 rfl (lv_at hl 2 rfl) ?_
  refine oh_lV (wx := lw_x E xa) (wm := lw_m E ma r1 r2 r3 r4 r5) (As := []) (rest := []) ⟨hx, hb, hml, hown, htg⟩ (c_X6_wipe l D E G H.size (xa 0) (xa 1) (xa 9) (xa 17) (xa 24) (xa 28) (xa 30) (xa 33) (xa 34) (xa 29)) (cwV 0 htg (oh_gV q_491 q_492 q_493 q_66 q_494) rfl rfl rfl pdVX6_wipe ⟨Nat.le_of_ble_eq_true rfl, Nat.le_of_ble_eq_true rfl⟩) hK hP hD hG hS hA [0, 28] rfl (by decide) (show ∀ i ∈ ([0, 28] : List Nat), i < 35 by decide) (va_recv hK hP (ci := 6) (q0 := 0) rfl rfl) rfl hl.1 rfl (Nat.le_of_ble_eq_true rfl) dL_law_954 ⟨(show 109 ≤ 600000 from Nat.le_of_ble_eq_true rfl), (show 2593 ≤ 7302250 from Nat.le_of_ble_eq_true rfl)⟩ (fun r_1 u H locs hw hP hD hS => ?_)
  subst hw
  refine W.widen (k := 109) (n := 2593) (Nat.le_refl _) (Nat.le_refl _) ?_
  refine lv_aload_n hx hb dL_law_957 rfl (lv_at hl 1 rfl) ?_
  refine oh_mV (wr := []) (As := []) (rest := [.int 0]) ⟨hx, hb, hml, hown, htg⟩ (c_X7_wipe l D E G H.size (ma 0) (ma 1) (ma 2) (ma 3) (ma 4) (ma 5) (ma 6) (ma 7) (ma 8) (ma 9) (ma 10) (ma 11) (ma 12) (ma 13) (ma 14) (ma 15)) (cwV 0 htg (oh_gV q_1185 q_1186 q_1187 q_73 q_1188) rfl rfl rfl pdVX7_wipe ⟨Nat.le_of_ble_eq_true rfl, Nat.le_of_ble_eq_true rfl⟩) hK hP hD hG hS hA [0] [] rfl rfl (by decide) (by decide) (by decide) (va_recv hK hP (ci := 7) (q0 := 0) rfl rfl) rfl hl.1 rfl (Nat.le_of_ble_eq_true rfl) dL_law_958 ⟨(show 109 ≤ 600000 from Nat.le_of_ble_eq_true rfl), (show 2593 ≤ 7302250 from Nat.le_of_ble_eq_true rfl)⟩ (fun r_2 u H locs hw hP hD hS => ?_)
  subst hw
  refine W.widen (k := 109) (n := 2593) (Nat.le_refl _) (Nat.le_refl _) ?_
  refine lv_icmp_eq (tgt := 2047) hx hb dL_law_961 (by decide) (fun _ => ?_) (fun c => absurd (show (0 : Int32) = 0 from by decide) c)
  exact lw_end C0 hAe hS (lv_sub hl [0, 3] rfl) (show 109 ≤ 600000 from Nat.le_of_ble_eq_true rfl) (show 2593 ≤ 7302250 from Nat.le_of_ble_eq_true rfl)
set_option maxHeartbeats 4000000 in
set_option maxRecDepth 100000 in
/-- the law at one call of land -/
theorem lc_land {p : Program} {e : Env} {s : State} {m : MethodId} {below : List Frame} {meth : Method} {c : Code} (l : Launch) {b : Nat} {xs : Nat → Int32} (C0 : lw_At p s m meth c b 8 xs) {D : va_G} {E : Nat → ClassId} {G : Nat → Nat} {A : Nat → Prop} (hAe : A = fun q => s.heap.size ≤ q) (hK : va_K D vwCl (oh_ty E) s) (hG : oh_G G A s) {xa ma r1 r2 r3 r4 r5 : Nat → Nat} {H : Heap} {locs : List Loc} (hP : va_P D vwCl (lw_x E xa ++ lw_m E ma r1 r2 r3 r4 r5) H) (hD : va_D A (lw_x E xa ++ lw_m E ma r1 r2 r3 r4 r5)) (hS : va_S A s.heap H locs) {ls : Array Slot} (hl : lv_has ls 4 [(3, .int 0), (2, .ref (ma 0)), (1, .ref (xa 0)), (0, .ref b)]) : W p l e room_1 s m #[Value.ref b] below meth c H locs 109 2593 (lw_Z below #[Value.ref b] s) (F0 m 966 ls []) := by
  obtain ⟨hx, hb, hr, hml, hown, hts, hX, hbl, hlocks, hgv⟩ := id C0
  have hown : s.vm.findClass RL = some m.cls := hown
  have htg : ∀ w ∈ oh_t, w.before _ s = true := fun w h => hts w (List.mem_filter.mp h).1
  have hA : ∀ q, s.heap.size ≤ q → A q := fun q h => by rw [hAe]; exact h
  have hbA : ¬ A b := by rw [hAe]; exact Nat.not_le.mpr hbl
  refine lv_aload_n hx hb dL_law_966 rfl (lv_at hl 2 rfl) ?_
  refine oh_lV (wx := lw_x E xa) (wm := lw_m E ma r1 r2 r3 r4 r5) (As := []) (rest := []) ⟨hx, hb, hml, hown, htg⟩ (c_X6_land l D E G H.size (xa 0) (xa 1) (xa 9) (xa 17) (xa 24) (xa 28) (xa 30) (xa 33) (xa 34) (xa 29) (xa 2) (xa 3) (xa 4) (xa 5) (xa 6) (xa 7) (xa 8) (xa 31) (xa 32)) (cwV 0 htg (oh_gV q_495 q_496 q_497 q_66 q_498) rfl rfl rfl pdVX6_land ⟨Nat.le_of_ble_eq_true rfl, Nat.le_of_ble_eq_true rfl⟩) hK hP hD hG hS hA [0, 28, 1, 2, 7, 30, 31, 32, 33] rfl (by decide) (show ∀ i ∈ ([0, 28, 1, 2, 7, 30, 31, 32, 33] : List Nat), i < 35 by decide) (va_recv hK hP (ci := 6) (q0 := 0) rfl rfl) rfl hl.1 rfl (Nat.le_of_ble_eq_true rfl) dL_law_967 ⟨(show 109 ≤ 600000 from Nat.le_of_ble_eq_true rfl), (show 2593 ≤ 7302250 from Nat.le_of_ble_eq_true rfl)⟩ (fun r_1 u H locs hw hP hD hS => ?_)
  subst hw
  refine W.widen (k := 109) (n := 2593) (Nat.le_refl _) (Nat.le_refl _) ?_
  refine lv_aload_n hx hb dL_law_970 rfl (lv_at hl 1 rfl) ?_
  refine oh_mV (wr := []) (As := []) (rest := [.int (-20)]) ⟨hx, hb, hml, hown, htg⟩ (c_X7_land l D E G H.size (ma 0) (ma 1) (ma 2) (ma 3) (ma 4) (ma 5) (ma 6) (ma 7) (ma 8) (ma 9) (ma 10) (ma 11) (ma 12) (ma 13) (ma 14) (ma 15)) (cwV 0 htg (oh_gV q_1189 q_1190 q_1191 q_73 q_1192) rfl rfl rfl pdVX7_land ⟨Nat.le_of_ble_eq_true rfl, Nat.le_of_ble_eq_true rfl⟩) hK hP hD hG hS hA [0, 13, 8] [] rfl rfl (by decide) (by decide) (by decide) (va_recv hK hP (ci := 7) (q0 := 0) rfl rfl) rfl hl.1 rfl (Nat.le_of_ble_eq_true rfl) dL_law_971 ⟨(show 109 ≤ 600000 from Nat.le_of_ble_eq_true rfl), (show 2593 ≤ 7302250 from Nat.le_of_ble_eq_true rfl)⟩ (fun r_2 u H locs hw hP hD hS => ?_)
  subst hw
  refine W.widen (k := 109) (n := 2593) (Nat.le_refl _) (Nat.le_refl _) ?_
  refine lv_icmp_eq (tgt := 2047) hx hb dL_law_974 (by decide) (fun _ => ?_) (fun c => absurd (show (-20 : Int32) = (-20) from by decide) c)
  exact lw_end C0 hAe hS (lv_sub hl [0, 3] rfl) (show 109 ≤ 600000 from Nat.le_of_ble_eq_true rfl) (show 2593 ≤ 7302250 from Nat.le_of_ble_eq_true rfl)
set_option maxHeartbeats 4000000 in
set_option maxRecDepth 100000 in
/-- the law at one call of roadOf -/
theorem lc_roadOf {p : Program} {e : Env} {s : State} {m : MethodId} {below : List Frame} {meth : Method} {c : Code} (l : Launch) {b : Nat} {xs : Nat → Int32} (C0 : lw_At p s m meth c b 8 xs) {D : va_G} {E : Nat → ClassId} {G : Nat → Nat} {A : Nat → Prop} (hAe : A = fun q => s.heap.size ≤ q) (hK : va_K D vwCl (oh_ty E) s) (hG : oh_G G A s) {xa ma r1 r2 r3 r4 r5 : Nat → Nat} {H : Heap} {locs : List Loc} (hP : va_P D vwCl (lw_x E xa ++ lw_m E ma r1 r2 r3 r4 r5) H) (hD : va_D A (lw_x E xa ++ lw_m E ma r1 r2 r3 r4 r5)) (hS : va_S A s.heap H locs) {ls : Array Slot} (hl : lv_has ls 4 [(3, .int 0), (2, .ref (ma 0)), (1, .ref (xa 0)), (0, .ref b)]) : W p l e room_1 s m #[Value.ref b] below meth c H locs 109 2593 (lw_Z below #[Value.ref b] s) (F0 m 979 ls []) := by
  obtain ⟨hx, hb, hr, hml, hown, hts, hX, hbl, hlocks, hgv⟩ := id C0
  have hown : s.vm.findClass RL = some m.cls := hown
  have htg : ∀ w ∈ oh_t, w.before _ s = true := fun w h => hts w (List.mem_filter.mp h).1
  have hA : ∀ q, s.heap.size ≤ q → A q := fun q h => by rw [hAe]; exact h
  have hbA : ¬ A b := by rw [hAe]; exact Nat.not_le.mpr hbl
  refine lv_aload_n hx hb dL_law_979 rfl (lv_at hl 2 rfl) ?_
  refine lv_aload_n hx hb dL_law_980 rfl (lv_at hl 3 rfl) ?_
  refine lv_iload_n hx hb dL_law_981 rfl (lv_at hl 0 rfl) ?_
  refine lv_iconst (v := 1) hx hb dL_law_982 (by decide) ?_
  refine lv_iadd hx hb dL_law_983 ?_
  refine oh_nrm (v := 1) (by decide) ?_
  refine va_sld hx hb hX hbl hbA hS (show vp_in 1 8 by unfold vp_in; decide) dL_law_984 ?_
  refine oh_nrm (v := xs 1) rfl ?_
  refine lv_aload_n hx hb dL_law_985 rfl (lv_at hl 3 rfl) ?_
  refine lv_iload_n hx hb dL_law_986 rfl (lv_at hl 0 rfl) ?_
  refine lv_iconst (v := 2) hx hb dL_law_987 (by decide) ?_
  refine lv_iadd hx hb dL_law_988 ?_
  refine oh_nrm (v := 2) (by decide) ?_
  refine va_sld hx hb hX hbl hbA hS (show vp_in 2 8 by unfold vp_in; decide) dL_law_989 ?_
  refine oh_nrm (v := xs 2) rfl ?_
  refine oh_lV (wx := lw_x E xa) (wm := lw_m E ma r1 r2 r3 r4 r5) (As := [.int (xs 1), .int (xs 2)]) (rest := []) ⟨hx, hb, hml, hown, htg⟩ (c_X6_roadOf l D E G H.size (xa 0) (xs 1) (xs 2) (xa 1) (xa 9) (xa 17) (xa 24) (xa 28) (xa 30) (xa 33) (xa 34) (xa 2) (xa 3) (xa 4) (xa 5) (xa 6) (xa 7) (xa 8)) (cwV 2 htg (oh_gV q_663 q_664 q_665 q_66 q_666) rfl rfl rfl pdVX6_roadOf ⟨Nat.le_of_ble_eq_true rfl, Nat.le_of_ble_eq_true rfl⟩) hK hP hD hG hS hA [0, 1, 2, 33] rfl (by decide) (show ∀ i ∈ ([0, 1, 2, 33] : List Nat), i < 35 by decide) (va_recv hK hP (ci := 6) (q0 := 0) rfl rfl) rfl hl.1 rfl (Nat.le_of_ble_eq_true rfl) dL_law_990 ⟨(show 109 ≤ 600000 from Nat.le_of_ble_eq_true rfl), (show 2593 ≤ 7302250 from Nat.le_of_ble_eq_true rfl)⟩ (fun r_1 u H locs hw hP hD hS => ?_)
  subst hw
  refine W.widen (k := 109) (n := 2593) (Nat.le_refl _) (Nat.le_refl _) ?_
  refine lv_aload_n hx hb dL_law_993 rfl (lv_at hl 1 rfl) ?_
  refine lv_aload_n hx hb dL_law_994 rfl (lv_at hl 3 rfl) ?_
  refine lv_iload_n hx hb dL_law_995 rfl (lv_at hl 0 rfl) ?_
  refine lv_iconst (v := 1) hx hb dL_law_996 (by decide) ?_
  refine lv_iadd hx hb dL_law_997 ?_
  refine oh_nrm (v := 1) (by decide) ?_
  refine va_sld hx hb hX hbl hbA hS (show vp_in 1 8 by unfold vp_in; decide) dL_law_998 ?_
  refine oh_nrm (v := xs 1) rfl ?_
  refine lv_aload_n hx hb dL_law_999 rfl (lv_at hl 3 rfl) ?_
  refine lv_iload_n hx hb dL_law_1000 rfl (lv_at hl 0 rfl) ?_
  refine lv_iconst (v := 2) hx hb dL_law_1001 (by decide) ?_
  refine lv_iadd hx hb dL_law_1002 ?_
  refine oh_nrm (v := 2) (by decide) ?_
  refine va_sld hx hb hX hbl hbA hS (show vp_in 2 8 by unfold vp_in; decide) dL_law_1003 ?_
  refine oh_nrm (v := xs 2) rfl ?_
  refine oh_mV (wr := []) (As := [.int (xs 1), .int (xs 2)]) (rest := [.int (-2)]) ⟨hx, hb, hml, hown, htg⟩ (c_X7_roadOf l D E G H.size (ma 0) (xs 1) (xs 2) (ma 1) (ma 2) (ma 3) (ma 4) (ma 5) (ma 6) (ma 7) (ma 8) (ma 9) (ma 10) (ma 11) (ma 12) (ma 13) (ma 14) (ma 15)) (cwV 2 htg (oh_gV q_1261 q_1262 q_1263 q_73 q_1264) rfl rfl rfl pdVX7_roadOf ⟨Nat.le_of_ble_eq_true rfl, Nat.le_of_ble_eq_true rfl⟩) hK hP hD hG hS hA [0, 8] [] rfl rfl (by decide) (by decide) (by decide) (va_recv hK hP (ci := 7) (q0 := 0) rfl rfl) rfl hl.1 rfl (Nat.le_of_ble_eq_true rfl) dL_law_1004 ⟨(show 109 ≤ 600000 from Nat.le_of_ble_eq_true rfl), (show 2593 ≤ 7302250 from Nat.le_of_ble_eq_true rfl)⟩ (fun r_2 u H locs hw hP hD hS => ?_)
  subst hw
  refine W.widen (k := 109) (n := 2593) (Nat.le_refl _) (Nat.le_refl _) ?_
  refine lv_icmp_eq (tgt := 2047) hx hb dL_law_1007 (by decide) (fun _ => ?_) (fun c => absurd (show (-2 : Int32) = (-2) from by decide) c)
  exact lw_end C0 hAe hS (lv_sub hl [0, 3] rfl) (show 109 ≤ 600000 from Nat.le_of_ble_eq_true rfl) (show 2593 ≤ 7302250 from Nat.le_of_ble_eq_true rfl)
set_option maxHeartbeats 4000000 in
set_option maxRecDepth 100000 in
/-- the law at one call of bridgeOf -/
theorem lc_bridgeOf {p : Program} {e : Env} {s : State} {m : MethodId} {below : List Frame} {meth : Method} {c : Code} (l : Launch) {b : Nat} {xs : Nat → Int32} (C0 : lw_At p s m meth c b 8 xs) {D : va_G} {E : Nat → ClassId} {G : Nat → Nat} {A : Nat → Prop} (hAe : A = fun q => s.heap.size ≤ q) (hK : va_K D vwCl (oh_ty E) s) (hG : oh_G G A s) {xa ma r1 r2 r3 r4 r5 : Nat → Nat} {H : Heap} {locs : List Loc} (hP : va_P D vwCl (lw_x E xa ++ lw_m E ma r1 r2 r3 r4 r5) H) (hD : va_D A (lw_x E xa ++ lw_m E ma r1 r2 r3 r4 r5)) (hS : va_S A s.heap H locs) {ls : Array Slot} (hl : lv_has ls 4 [(3, .int 0), (2, .ref (ma 0)), (1, .ref (xa 0)), (0, .ref b)]) : W p l e room_1 s m #[Value.ref b] below meth c H locs 109 2593 (lw_Z below #[Value.ref b] s) (F0 m 1012 ls []) := by
  obtain ⟨hx, hb, hr, hml, hown, hts, hX, hbl, hlocks, hgv⟩ := id C0
  have hown : s.vm.findClass RL = some m.cls := hown
  have htg : ∀ w ∈ oh_t, w.before _ s = true := fun w h => hts w (List.mem_filter.mp h).1
  have hA : ∀ q, s.heap.size ≤ q → A q := fun q h => by rw [hAe]; exact h
  have hbA : ¬ A b := by rw [hAe]; exact Nat.not_le.mpr hbl
  refine lv_aload_n hx hb dL_law_1012 rfl (lv_at hl 2 rfl) ?_
  refine lv_aload_n hx hb dL_law_1013 rfl (lv_at hl 3 rfl) ?_
  refine lv_iload_n hx hb dL_law_1014 rfl (lv_at hl 0 rfl) ?_
  refine lv_iconst (v := 1) hx hb dL_law_1015 (by decide) ?_
  refine lv_iadd hx hb dL_law_1016 ?_
  refine oh_nrm (v := 1) (by decide) ?_
  refine va_sld hx hb hX hbl hbA hS (show vp_in 1 8 by unfold vp_in; decide) dL_law_1017 ?_
  refine oh_nrm (v := xs 1) rfl ?_
  refine lv_aload_n hx hb dL_law_1018 rfl (lv_at hl 3 rfl) ?_
  refine lv_iload_n hx hb dL_law_1019 rfl (lv_at hl 0 rfl) ?_
  refine lv_iconst (v := 2) hx hb dL_law_1020 (by decide) ?_
  refine lv_iadd hx hb dL_law_1021 ?_
  refine oh_nrm (v := 2) (by decide) ?_
  refine va_sld hx hb hX hbl hbA hS (show vp_in 2 8 by unfold vp_in; decide) dL_law_1022 ?_
  refine oh_nrm (v := xs 2) rfl ?_
  refine oh_lV (wx := lw_x E xa) (wm := lw_m E ma r1 r2 r3 r4 r5) (As := [.int (xs 1), .int (xs 2)]) (rest := []) ⟨hx, hb, hml, hown, htg⟩ (c_X6_bridgeOf l D E G H.size (xa 0) (xs 1) (xs 2) (xa 1) (xa 9) (xa 17) (xa 24) (xa 28) (xa 30) (xa 33) (xa 34) (xa 2) (xa 3) (xa 4) (xa 5) (xa 6) (xa 7) (xa 8)) (cwV 2 htg (oh_gV q_667 q_668 q_669 q_66 q_670) rfl rfl rfl pdVX6_bridgeOf ⟨Nat.le_of_ble_eq_true rfl, Nat.le_of_ble_eq_true rfl⟩) hK hP hD hG hS hA [0, 1, 2, 33] rfl (by decide) (show ∀ i ∈ ([0, 1, 2, 33] : List Nat), i < 35 by decide) (va_recv hK hP (ci := 6) (q0 := 0) rfl rfl) rfl hl.1 rfl (Nat.le_of_ble_eq_true rfl) dL_law_1023 ⟨(show 109 ≤ 600000 from Nat.le_of_ble_eq_true rfl), (show 2593 ≤ 7302250 from Nat.le_of_ble_eq_true rfl)⟩ (fun r_1 u H locs hw hP hD hS => ?_)
  subst hw
  refine W.widen (k := 109) (n := 2593) (Nat.le_refl _) (Nat.le_refl _) ?_
  refine lv_aload_n hx hb dL_law_1026 rfl (lv_at hl 1 rfl) ?_
  refine lv_aload_n hx hb dL_law_1027 rfl (lv_at hl 3 rfl) ?_
  refine lv_iload_n hx hb dL_law_1028 rfl (lv_at hl 0 rfl) ?_
  refine lv_iconst (v := 1) hx hb dL_law_1029 (by decide) ?_
  refine lv_iadd hx hb dL_law_1030 ?_
  refine oh_nrm (v := 1) (by decide) ?_
  refine va_sld hx hb hX hbl hbA hS (show vp_in 1 8 by unfold vp_in; decide) dL_law_1031 ?_
  refine oh_nrm (v := xs 1) rfl ?_
  refine lv_aload_n hx hb dL_law_1032 rfl (lv_at hl 3 rfl) ?_
  refine lv_iload_n hx hb dL_law_1033 rfl (lv_at hl 0 rfl) ?_
  refine lv_iconst (v := 2) hx hb dL_law_1034 (by decide) ?_
  refine lv_iadd hx hb dL_law_1035 ?_
  refine oh_nrm (v := 2) (by decide) ?_
  refine va_sld hx hb hX hbl hbA hS (show vp_in 2 8 by unfold vp_in; decide) dL_law_1036 ?_
  refine oh_nrm (v := xs 2) rfl ?_
  refine oh_mV (wr := []) (As := [.int (xs 1), .int (xs 2)]) (rest := [.int (-2)]) ⟨hx, hb, hml, hown, htg⟩ (c_X7_bridgeOf l D E G H.size (ma 0) (xs 1) (xs 2) (ma 1) (ma 2) (ma 3) (ma 4) (ma 5) (ma 6) (ma 7) (ma 8) (ma 9) (ma 10) (ma 11) (ma 12) (ma 13) (ma 14) (ma 15)) (cwV 2 htg (oh_gV q_1266 q_1267 q_1268 q_73 q_1269) rfl rfl rfl pdVX7_bridgeOf ⟨Nat.le_of_ble_eq_true rfl, Nat.le_of_ble_eq_true rfl⟩) hK hP hD hG hS hA [0, 8] [] rfl rfl (by decide) (by decide) (by decide) (va_recv hK hP (ci := 7) (q0 := 0) rfl rfl) rfl hl.1 rfl (Nat.le_of_ble_eq_true rfl) dL_law_1037 ⟨(show 109 ≤ 600000 from Nat.le_of_ble_eq_true rfl), (show 2593 ≤ 7302250 from Nat.le_of_ble_eq_true rfl)⟩ (fun r_2 u H locs hw hP hD hS => ?_)
  subst hw
  refine W.widen (k := 109) (n := 2593) (Nat.le_refl _) (Nat.le_refl _) ?_
  refine lv_icmp_eq (tgt := 2047) hx hb dL_law_1040 (by decide) (fun _ => ?_) (fun c => absurd (show (-2 : Int32) = (-2) from by decide) c)
  exact lw_end C0 hAe hS (lv_sub hl [0, 3] rfl) (show 109 ≤ 600000 from Nat.le_of_ble_eq_true rfl) (show 2593 ≤ 7302250 from Nat.le_of_ble_eq_true rfl)
set_option maxHeartbeats 4000000 in
set_option maxRecDepth 100000 in
/-- the law at one call of bears -/
theorem lc_bears {p : Program} {e : Env} {s : State} {m : MethodId} {below : List Frame} {meth : Method} {c : Code} (l : Launch) {b : Nat} {xs : Nat → Int32} (C0 : lw_At p s m meth c b 8 xs) {D : va_G} {E : Nat → ClassId} {G : Nat → Nat} {A : Nat → Prop} (hAe : A = fun q => s.heap.size ≤ q) (hK : va_K D vwCl (oh_ty E) s) (hG : oh_G G A s) {xa ma r1 r2 r3 r4 r5 : Nat → Nat} {H : Heap} {locs : List Loc} (hP : va_P D vwCl (lw_x E xa ++ lw_m E ma r1 r2 r3 r4 r5) H) (hD : va_D A (lw_x E xa ++ lw_m E ma r1 r2 r3 r4 r5)) (hS : va_S A s.heap H locs) {ls : Array Slot} (hl : lv_has ls 4 [(3, .int 0), (2, .ref (ma 0)), (1, .ref (xa 0)), (0, .ref b)]) : W p l e room_1 s m #[Value.ref b] below meth c H locs 109 2593 (lw_Z below #[Value.ref b] s) (F0 m 1045 ls []) := by
  obtain ⟨hx, hb, hr, hml, hown, hts, hX, hbl, hlocks, hgv⟩ := id C0
  have hown : s.vm.findClass RL = some m.cls := hown
  have htg : ∀ w ∈ oh_t, w.before _ s = true := fun w h => hts w (List.mem_filter.mp h).1
  have hA : ∀ q, s.heap.size ≤ q → A q := fun q h => by rw [hAe]; exact h
  have hbA : ¬ A b := by rw [hAe]; exact Nat.not_le.mpr hbl
  refine lv_aload_n hx hb dL_law_1045 rfl (lv_at hl 2 rfl) ?_
  refine lv_aload_n hx hb dL_law_1046 rfl (lv_at hl 3 rfl) ?_
  refine lv_iload_n hx hb dL_law_1047 rfl (lv_at hl 0 rfl) ?_
  refine lv_iconst (v := 1) hx hb dL_law_1048 (by decide) ?_
  refine lv_iadd hx hb dL_law_1049 ?_
  refine oh_nrm (v := 1) (by decide) ?_
  refine va_sld hx hb hX hbl hbA hS (show vp_in 1 8 by unfold vp_in; decide) dL_law_1050 ?_
  refine oh_nrm (v := xs 1) rfl ?_
  refine lv_aload_n hx hb dL_law_1051 rfl (lv_at hl 3 rfl) ?_
  refine lv_iload_n hx hb dL_law_1052 rfl (lv_at hl 0 rfl) ?_
  refine lv_iconst (v := 2) hx hb dL_law_1053 (by decide) ?_
  refine lv_iadd hx hb dL_law_1054 ?_
  refine oh_nrm (v := 2) (by decide) ?_
  refine va_sld hx hb hX hbl hbA hS (show vp_in 2 8 by unfold vp_in; decide) dL_law_1055 ?_
  refine oh_nrm (v := xs 2) rfl ?_
  refine lv_if_eq (tgt := 1063) hx hb dL_law_1056 (by decide) (fun (c_1 : (xs 2) = 0) => ?_) (fun (c_1 : ¬ ((xs 2) = 0)) => ?_)
  · refine lv_iconst (v := 0) hx hb dL_law_1063 (by decide) ?_
    refine oh_lV (wx := lw_x E xa) (wm := lw_m E ma r1 r2 r3 r4 r5) (As := [.int (xs 1), .int 0]) (rest := []) ⟨hx, hb, hml, hown, htg⟩ (c_X6_bears l D E G H.size (xa 0) (xs 1) 0 (xa 1) (xa 9) (xa 17) (xa 24) (xa 28) (xa 30) (xa 33) (xa 34) (xa 2) (xa 3) (xa 4) (xa 5) (xa 6) (xa 7) (xa 8)) (cwV 2 htg (oh_gV q_671 q_672 q_673 q_66 q_674) rfl rfl rfl pdVX6_bears ⟨Nat.le_of_ble_eq_true rfl, Nat.le_of_ble_eq_true rfl⟩) hK hP hD hG hS hA [0, 1, 2, 33] rfl (by decide) (show ∀ i ∈ ([0, 1, 2, 33] : List Nat), i < 35 by decide) (va_recv hK hP (ci := 6) (q0 := 0) rfl rfl) rfl hl.1 rfl (Nat.le_of_ble_eq_true rfl) dL_law_1064 ⟨(show 109 ≤ 600000 from Nat.le_of_ble_eq_true rfl), (show 2593 ≤ 7302250 from Nat.le_of_ble_eq_true rfl)⟩ (fun r_1 u H locs hw hP hD hS => ?_)
    subst hw
    refine W.widen (k := 109) (n := 2593) (Nat.le_refl _) (Nat.le_refl _) ?_
    refine lv_aload_n hx hb dL_law_1067 rfl (lv_at hl 1 rfl) ?_
    refine lv_aload_n hx hb dL_law_1068 rfl (lv_at hl 3 rfl) ?_
    refine lv_iload_n hx hb dL_law_1069 rfl (lv_at hl 0 rfl) ?_
    refine lv_iconst (v := 1) hx hb dL_law_1070 (by decide) ?_
    refine lv_iadd hx hb dL_law_1071 ?_
    refine oh_nrm (v := 1) (by decide) ?_
    refine va_sld hx hb hX hbl hbA hS (show vp_in 1 8 by unfold vp_in; decide) dL_law_1072 ?_
    refine oh_nrm (v := xs 1) rfl ?_
    refine lv_aload_n hx hb dL_law_1073 rfl (lv_at hl 3 rfl) ?_
    refine lv_iload_n hx hb dL_law_1074 rfl (lv_at hl 0 rfl) ?_
    refine lv_iconst (v := 2) hx hb dL_law_1075 (by decide) ?_
    refine lv_iadd hx hb dL_law_1076 ?_
    refine oh_nrm (v := 2) (by decide) ?_
    refine va_sld hx hb hX hbl hbA hS (show vp_in 2 8 by unfold vp_in; decide) dL_law_1077 ?_
    refine oh_nrm (v := xs 2) rfl ?_
    refine lv_if_eq (tgt := 1085) hx hb dL_law_1078 (by decide) (fun (c_2 : (xs 2) = 0) => ?_) (fun (c_2 : ¬ ((xs 2) = 0)) => ?_)
    · refine lv_iconst (v := 0) hx hb dL_law_1085 (by decide) ?_
      refine oh_mV (wr := []) (As := [.int (xs 1), .int 0]) (rest := [.int (-2)]) ⟨hx, hb, hml, hown, htg⟩ (c_X7_bears l D E G H.size (ma 0) (xs 1) 0 (ma 1) (ma 2) (ma 3) (ma 4) (ma 5) (ma 6) (ma 7) (ma 8) (ma 9) (ma 10) (ma 11) (ma 12) (ma 13) (ma 14) (ma 15)) (cwV 2 htg (oh_gV q_1270 q_1271 q_1272 q_73 q_1273) rfl rfl rfl pdVX7_bears ⟨Nat.le_of_ble_eq_true rfl, Nat.le_of_ble_eq_true rfl⟩) hK hP hD hG hS hA [0, 8] [] rfl rfl (by decide) (by decide) (by decide) (va_recv hK hP (ci := 7) (q0 := 0) rfl rfl) rfl hl.1 rfl (Nat.le_of_ble_eq_true rfl) dL_law_1086 ⟨(show 109 ≤ 600000 from Nat.le_of_ble_eq_true rfl), (show 2593 ≤ 7302250 from Nat.le_of_ble_eq_true rfl)⟩ (fun r_2 u H locs hw hP hD hS => ?_)
      subst hw
      refine W.widen (k := 109) (n := 2593) (Nat.le_refl _) (Nat.le_refl _) ?_
      refine lv_icmp_eq (tgt := 2047) hx hb dL_law_1089 (by decide) (fun _ => ?_) (fun c => absurd (show (-2 : Int32) = (-2) from by decide) c)
      exact lw_end C0 hAe hS (lv_sub hl [0, 3] rfl) (show 109 ≤ 600000 from Nat.le_of_ble_eq_true rfl) (show 2593 ≤ 7302250 from Nat.le_of_ble_eq_true rfl)
    · refine lv_iconst (v := 1) hx hb dL_law_1081 (by decide) ?_
      refine lv_goto (tgt := 1086) hx hb dL_law_1082 (by decide) ?_
      refine oh_mV (wr := []) (As := [.int (xs 1), .int 1]) (rest := [.int (-2)]) ⟨hx, hb, hml, hown, htg⟩ (c_X7_bears l D E G H.size (ma 0) (xs 1) 1 (ma 1) (ma 2) (ma 3) (ma 4) (ma 5) (ma 6) (ma 7) (ma 8) (ma 9) (ma 10) (ma 11) (ma 12) (ma 13) (ma 14) (ma 15)) (cwV 2 htg (oh_gV q_1270 q_1271 q_1272 q_73 q_1273) rfl rfl rfl pdVX7_bears ⟨Nat.le_of_ble_eq_true rfl, Nat.le_of_ble_eq_true rfl⟩) hK hP hD hG hS hA [0, 8] [] rfl rfl (by decide) (by decide) (by decide) (va_recv hK hP (ci := 7) (q0 := 0) rfl rfl) rfl hl.1 rfl (Nat.le_of_ble_eq_true rfl) dL_law_1086 ⟨(show 109 ≤ 600000 from Nat.le_of_ble_eq_true rfl), (show 2593 ≤ 7302250 from Nat.le_of_ble_eq_true rfl)⟩ (fun r_3 u H locs hw hP hD hS => ?_)
      subst hw
      refine W.widen (k := 109) (n := 2593) (Nat.le_refl _) (Nat.le_refl _) ?_
      refine lv_icmp_eq (tgt := 2047) hx hb dL_law_1089 (by decide) (fun _ => ?_) (fun c => absurd (show (-2 : Int32) = (-2) from by decide) c)
      exact lw_end C0 hAe hS (lv_sub hl [0, 3] rfl) (show 109 ≤ 600000 from Nat.le_of_ble_eq_true rfl) (show 2593 ≤ 7302250 from Nat.le_of_ble_eq_true rfl)
  · refine lv_iconst (v := 1) hx hb dL_law_1059 (by decide) ?_
    refine lv_goto (tgt := 1064) hx hb dL_law_1060 (by decide) ?_
    refine oh_lV (wx := lw_x E xa) (wm := lw_m E ma r1 r2 r3 r4 r5) (As := [.int (xs 1), .int 1]) (rest := []) ⟨hx, hb, hml, hown, htg⟩ (c_X6_bears l D E G H.size (xa 0) (xs 1) 1 (xa 1) (xa 9) (xa 17) (xa 24) (xa 28) (xa 30) (xa 33) (xa 34) (xa 2) (xa 3) (xa 4) (xa 5) (xa 6) (xa 7) (xa 8)) (cwV 2 htg (oh_gV q_671 q_672 q_673 q_66 q_674) rfl rfl rfl pdVX6_bears ⟨Nat.le_of_ble_eq_true rfl, Nat.le_of_ble_eq_true rfl⟩) hK hP hD hG hS hA [0, 1, 2, 33] rfl (by decide) (show ∀ i ∈ ([0, 1, 2, 33] : List Nat), i < 35 by decide) (va_recv hK hP (ci := 6) (q0 := 0) rfl rfl) rfl hl.1 rfl (Nat.le_of_ble_eq_true rfl) dL_law_1064 ⟨(show 109 ≤ 600000 from Nat.le_of_ble_eq_true rfl), (show 2593 ≤ 7302250 from Nat.le_of_ble_eq_true rfl)⟩ (fun r_4 u H locs hw hP hD hS => ?_)
    subst hw
    refine W.widen (k := 109) (n := 2593) (Nat.le_refl _) (Nat.le_refl _) ?_
    refine lv_aload_n hx hb dL_law_1067 rfl (lv_at hl 1 rfl) ?_
    refine lv_aload_n hx hb dL_law_1068 rfl (lv_at hl 3 rfl) ?_
    refine lv_iload_n hx hb dL_law_1069 rfl (lv_at hl 0 rfl) ?_
    refine lv_iconst (v := 1) hx hb dL_law_1070 (by decide) ?_
    refine lv_iadd hx hb dL_law_1071 ?_
    refine oh_nrm (v := 1) (by decide) ?_
    refine va_sld hx hb hX hbl hbA hS (show vp_in 1 8 by unfold vp_in; decide) dL_law_1072 ?_
    refine oh_nrm (v := xs 1) rfl ?_
    refine lv_aload_n hx hb dL_law_1073 rfl (lv_at hl 3 rfl) ?_
    refine lv_iload_n hx hb dL_law_1074 rfl (lv_at hl 0 rfl) ?_
    refine lv_iconst (v := 2) hx hb dL_law_1075 (by decide) ?_
    refine lv_iadd hx hb dL_law_1076 ?_
    refine oh_nrm (v := 2) (by decide) ?_
    refine va_sld hx hb hX hbl hbA hS (show vp_in 2 8 by unfold vp_in; decide) dL_law_1077 ?_
    refine oh_nrm (v := xs 2) rfl ?_
    refine lv_if_eq (tgt := 1085) hx hb dL_law_1078 (by decide) (fun (c_3 : (xs 2) = 0) => ?_) (fun (c_3 : ¬ ((xs 2) = 0)) => ?_)
    · refine lv_iconst (v := 0) hx hb dL_law_1085 (by decide) ?_
      refine oh_mV (wr := []) (As := [.int (xs 1), .int 0]) (rest := [.int (-2)]) ⟨hx, hb, hml, hown, htg⟩ (c_X7_bears l D E G H.size (ma 0) (xs 1) 0 (ma 1) (ma 2) (ma 3) (ma 4) (ma 5) (ma 6) (ma 7) (ma 8) (ma 9) (ma 10) (ma 11) (ma 12) (ma 13) (ma 14) (ma 15)) (cwV 2 htg (oh_gV q_1270 q_1271 q_1272 q_73 q_1273) rfl rfl rfl pdVX7_bears ⟨Nat.le_of_ble_eq_true rfl, Nat.le_of_ble_eq_true rfl⟩) hK hP hD hG hS hA [0, 8] [] rfl rfl (by decide) (by decide) (by decide) (va_recv hK hP (ci := 7) (q0 := 0) rfl rfl) rfl hl.1 rfl (Nat.le_of_ble_eq_true rfl) dL_law_1086 ⟨(show 109 ≤ 600000 from Nat.le_of_ble_eq_true rfl), (show 2593 ≤ 7302250 from Nat.le_of_ble_eq_true rfl)⟩ (fun r_5 u H locs hw hP hD hS => ?_)
      subst hw
      refine W.widen (k := 109) (n := 2593) (Nat.le_refl _) (Nat.le_refl _) ?_
      refine lv_icmp_eq (tgt := 2047) hx hb dL_law_1089 (by decide) (fun _ => ?_) (fun c => absurd (show (-2 : Int32) = (-2) from by decide) c)
      exact lw_end C0 hAe hS (lv_sub hl [0, 3] rfl) (show 109 ≤ 600000 from Nat.le_of_ble_eq_true rfl) (show 2593 ≤ 7302250 from Nat.le_of_ble_eq_true rfl)
    · refine lv_iconst (v := 1) hx hb dL_law_1081 (by decide) ?_
      refine lv_goto (tgt := 1086) hx hb dL_law_1082 (by decide) ?_
      refine oh_mV (wr := []) (As := [.int (xs 1), .int 1]) (rest := [.int (-2)]) ⟨hx, hb, hml, hown, htg⟩ (c_X7_bears l D E G H.size (ma 0) (xs 1) 1 (ma 1) (ma 2) (ma 3) (ma 4) (ma 5) (ma 6) (ma 7) (ma 8) (ma 9) (ma 10) (ma 11) (ma 12) (ma 13) (ma 14) (ma 15)) (cwV 2 htg (oh_gV q_1270 q_1271 q_1272 q_73 q_1273) rfl rfl rfl pdVX7_bears ⟨Nat.le_of_ble_eq_true rfl, Nat.le_of_ble_eq_true rfl⟩) hK hP hD hG hS hA [0, 8] [] rfl rfl (by decide) (by decide) (by decide) (va_recv hK hP (ci := 7) (q0 := 0) rfl rfl) rfl hl.1 rfl (Nat.le_of_ble_eq_true rfl) dL_law_1086 ⟨(show 109 ≤ 600000 from Nat.le_of_ble_eq_true rfl), (show 2593 ≤ 7302250 from Nat.le_of_ble_eq_true rfl)⟩ (fun r_6 u H locs hw hP hD hS => ?_)
      subst hw
      refine W.widen (k := 109) (n := 2593) (Nat.le_refl _) (Nat.le_refl _) ?_
      refine lv_icmp_eq (tgt := 2047) hx hb dL_law_1089 (by decide) (fun _ => ?_) (fun c => absurd (show (-2 : Int32) = (-2) from by decide) c)
      exact lw_end C0 hAe hS (lv_sub hl [0, 3] rfl) (show 109 ≤ 600000 from Nat.le_of_ble_eq_true rfl) (show 2593 ≤ 7302250 from Nat.le_of_ble_eq_true rfl)
set_option maxHeartbeats 4000000 in
set_option maxRecDepth 100000 in
/-- the law at one call of length -/
theorem lc_length {p : Program} {e : Env} {s : State} {m : MethodId} {below : List Frame} {meth : Method} {c : Code} (l : Launch) {b : Nat} {xs : Nat → Int32} (C0 : lw_At p s m meth c b 8 xs) {D : va_G} {E : Nat → ClassId} {G : Nat → Nat} {A : Nat → Prop} (hAe : A = fun q => s.heap.size ≤ q) (hK : va_K D vwCl (oh_ty E) s) (hG : oh_G G A s) {xa ma r1 r2 r3 r4 r5 : Nat → Nat} {H : Heap} {locs : List Loc} (hP : va_P D vwCl (lw_x E xa ++ lw_m E ma r1 r2 r3 r4 r5) H) (hD : va_D A (lw_x E xa ++ lw_m E ma r1 r2 r3 r4 r5)) (hS : va_S A s.heap H locs) {ls : Array Slot} (hl : lv_has ls 4 [(3, .int 0), (2, .ref (ma 0)), (1, .ref (xa 0)), (0, .ref b)]) : W p l e room_1 s m #[Value.ref b] below meth c H locs 109 2593 (lw_Z below #[Value.ref b] s) (F0 m 1094 ls []) := by
  obtain ⟨hx, hb, hr, hml, hown, hts, hX, hbl, hlocks, hgv⟩ := id C0
  have hown : s.vm.findClass RL = some m.cls := hown
  have htg : ∀ w ∈ oh_t, w.before _ s = true := fun w h => hts w (List.mem_filter.mp h).1
  have hA : ∀ q, s.heap.size ≤ q → A q := fun q h => by rw [hAe]; exact h
  have hbA : ¬ A b := by rw [hAe]; exact Nat.not_le.mpr hbl
  refine lv_aload_n hx hb dL_law_1094 rfl (lv_at hl 2 rfl) ?_
  refine lv_aload_n hx hb dL_law_1095 rfl (lv_at hl 3 rfl) ?_
  refine lv_iload_n hx hb dL_law_1096 rfl (lv_at hl 0 rfl) ?_
  refine lv_iconst (v := 1) hx hb dL_law_1097 (by decide) ?_
  refine lv_iadd hx hb dL_law_1098 ?_
  refine oh_nrm (v := 1) (by decide) ?_
  refine va_sld hx hb hX hbl hbA hS (show vp_in 1 8 by unfold vp_in; decide) dL_law_1099 ?_
  refine oh_nrm (v := xs 1) rfl ?_
  refine oh_lV (wx := lw_x E xa) (wm := lw_m E ma r1 r2 r3 r4 r5) (As := [.int (xs 1)]) (rest := []) ⟨hx, hb, hml, hown, htg⟩ (c_X6_length l D E G H.size (xa 0) (xs 1) (xa 1) (xa 9) (xa 17) (xa 24) (xa 28) (xa 30) (xa 33) (xa 34) (xa 2) (xa 3) (xa 4) (xa 5) (xa 6) (xa 7) (xa 8)) (cwV 1 htg (oh_gV q_675 q_676 q_677 q_66 q_678) rfl rfl rfl pdVX6_length ⟨Nat.le_of_ble_eq_true rfl, Nat.le_of_ble_eq_true rfl⟩) hK hP hD hG hS hA [0, 1, 2, 33] rfl (by decide) (show ∀ i ∈ ([0, 1, 2, 33] : List Nat), i < 35 by decide) (va_recv hK hP (ci := 6) (q0 := 0) rfl rfl) rfl hl.1 rfl (Nat.le_of_ble_eq_true rfl) dL_law_1100 ⟨(show 109 ≤ 600000 from Nat.le_of_ble_eq_true rfl), (show 2593 ≤ 7302250 from Nat.le_of_ble_eq_true rfl)⟩ (fun r_1 u H locs hw hP hD hS => ?_)
  subst hw
  refine W.widen (k := 109) (n := 2593) (Nat.le_refl _) (Nat.le_refl _) ?_
  refine lv_aload_n hx hb dL_law_1103 rfl (lv_at hl 1 rfl) ?_
  refine lv_aload_n hx hb dL_law_1104 rfl (lv_at hl 3 rfl) ?_
  refine lv_iload_n hx hb dL_law_1105 rfl (lv_at hl 0 rfl) ?_
  refine lv_iconst (v := 1) hx hb dL_law_1106 (by decide) ?_
  refine lv_iadd hx hb dL_law_1107 ?_
  refine oh_nrm (v := 1) (by decide) ?_
  refine va_sld hx hb hX hbl hbA hS (show vp_in 1 8 by unfold vp_in; decide) dL_law_1108 ?_
  refine oh_nrm (v := xs 1) rfl ?_
  refine oh_mV (wr := []) (As := [.int (xs 1)]) (rest := [.int (-2)]) ⟨hx, hb, hml, hown, htg⟩ (c_X7_length l D E G H.size (ma 0) (xs 1) (ma 1) (ma 2) (ma 3) (ma 4) (ma 5) (ma 6) (ma 7) (ma 8) (ma 9) (ma 10) (ma 11) (ma 12) (ma 13) (ma 14) (ma 15)) (cwV 1 htg (oh_gV q_1274 q_1275 q_1276 q_73 q_1277) rfl rfl rfl pdVX7_length ⟨Nat.le_of_ble_eq_true rfl, Nat.le_of_ble_eq_true rfl⟩) hK hP hD hG hS hA [0, 8] [] rfl rfl (by decide) (by decide) (by decide) (va_recv hK hP (ci := 7) (q0 := 0) rfl rfl) rfl hl.1 rfl (Nat.le_of_ble_eq_true rfl) dL_law_1109 ⟨(show 109 ≤ 600000 from Nat.le_of_ble_eq_true rfl), (show 2593 ≤ 7302250 from Nat.le_of_ble_eq_true rfl)⟩ (fun r_2 u H locs hw hP hD hS => ?_)
  subst hw
  refine W.widen (k := 109) (n := 2593) (Nat.le_refl _) (Nat.le_refl _) ?_
  refine lv_icmp_eq (tgt := 2047) hx hb dL_law_1112 (by decide) (fun _ => ?_) (fun c => absurd (show (-2 : Int32) = (-2) from by decide) c)
  exact lw_end C0 hAe hS (lv_sub hl [0, 3] rfl) (show 109 ≤ 600000 from Nat.le_of_ble_eq_true rfl) (show 2593 ≤ 7302250 from Nat.le_of_ble_eq_true rfl)
set_option maxHeartbeats 4000000 in
set_option maxRecDepth 100000 in
/-- the law at one call of axle -/
theorem lc_axle {p : Program} {e : Env} {s : State} {m : MethodId} {below : List Frame} {meth : Method} {c : Code} (l : Launch) {b : Nat} {xs : Nat → Int32} (C0 : lw_At p s m meth c b 8 xs) {D : va_G} {E : Nat → ClassId} {G : Nat → Nat} {A : Nat → Prop} (hAe : A = fun q => s.heap.size ≤ q) (hK : va_K D vwCl (oh_ty E) s) (hG : oh_G G A s) {xa ma r1 r2 r3 r4 r5 : Nat → Nat} {H : Heap} {locs : List Loc} (hP : va_P D vwCl (lw_x E xa ++ lw_m E ma r1 r2 r3 r4 r5) H) (hD : va_D A (lw_x E xa ++ lw_m E ma r1 r2 r3 r4 r5)) (hS : va_S A s.heap H locs) {ls : Array Slot} (hl : lv_has ls 4 [(3, .int 0), (2, .ref (ma 0)), (1, .ref (xa 0)), (0, .ref b)]) : W p l e room_1 s m #[Value.ref b] below meth c H locs 109 2593 (lw_Z below #[Value.ref b] s) (F0 m 1117 ls []) := by
  obtain ⟨hx, hb, hr, hml, hown, hts, hX, hbl, hlocks, hgv⟩ := id C0
  have hown : s.vm.findClass RL = some m.cls := hown
  have htg : ∀ w ∈ oh_t, w.before _ s = true := fun w h => hts w (List.mem_filter.mp h).1
  have hA : ∀ q, s.heap.size ≤ q → A q := fun q h => by rw [hAe]; exact h
  have hbA : ¬ A b := by rw [hAe]; exact Nat.not_le.mpr hbl
  refine lv_aload_n hx hb dL_law_1117 rfl (lv_at hl 2 rfl) ?_
  refine lv_aload_n hx hb dL_law_1118 rfl (lv_at hl 3 rfl) ?_
  refine lv_iload_n hx hb dL_law_1119 rfl (lv_at hl 0 rfl) ?_
  refine lv_iconst (v := 1) hx hb dL_law_1120 (by decide) ?_
  refine lv_iadd hx hb dL_law_1121 ?_
  refine oh_nrm (v := 1) (by decide) ?_
  refine va_sld hx hb hX hbl hbA hS (show vp_in 1 8 by unfold vp_in; decide) dL_law_1122 ?_
  refine oh_nrm (v := xs 1) rfl ?_
  refine lv_aload_n hx hb dL_law_1123 rfl (lv_at hl 3 rfl) ?_
  refine lv_iload_n hx hb dL_law_1124 rfl (lv_at hl 0 rfl) ?_
  refine lv_iconst (v := 2) hx hb dL_law_1125 (by decide) ?_
  refine lv_iadd hx hb dL_law_1126 ?_
  refine oh_nrm (v := 2) (by decide) ?_
  refine va_sld hx hb hX hbl hbA hS (show vp_in 2 8 by unfold vp_in; decide) dL_law_1127 ?_
  refine oh_nrm (v := xs 2) rfl ?_
  refine oh_lV (wx := lw_x E xa) (wm := lw_m E ma r1 r2 r3 r4 r5) (As := [.int (xs 1), .int (xs 2)]) (rest := []) ⟨hx, hb, hml, hown, htg⟩ (c_X6_axle l D E G H.size (xa 0) (xs 1) (xs 2) (xa 1) (xa 9) (xa 17) (xa 24) (xa 28) (xa 30) (xa 33) (xa 34) (xa 2) (xa 3) (xa 4) (xa 5) (xa 6) (xa 7) (xa 8)) (cwV 2 htg (oh_gV q_691 q_692 q_693 q_66 q_694) rfl rfl rfl pdVX6_axle ⟨Nat.le_of_ble_eq_true rfl, Nat.le_of_ble_eq_true rfl⟩) hK hP hD hG hS hA [0, 1, 2, 33] rfl (by decide) (show ∀ i ∈ ([0, 1, 2, 33] : List Nat), i < 35 by decide) (va_recv hK hP (ci := 6) (q0 := 0) rfl rfl) rfl hl.1 rfl (Nat.le_of_ble_eq_true rfl) dL_law_1128 ⟨(show 109 ≤ 600000 from Nat.le_of_ble_eq_true rfl), (show 2593 ≤ 7302250 from Nat.le_of_ble_eq_true rfl)⟩ (fun r_1 u H locs hw hP hD hS => ?_)
  subst hw
  refine W.widen (k := 109) (n := 2593) (Nat.le_refl _) (Nat.le_refl _) ?_
  refine lv_aload_n hx hb dL_law_1131 rfl (lv_at hl 1 rfl) ?_
  refine lv_aload_n hx hb dL_law_1132 rfl (lv_at hl 3 rfl) ?_
  refine lv_iload_n hx hb dL_law_1133 rfl (lv_at hl 0 rfl) ?_
  refine lv_iconst (v := 1) hx hb dL_law_1134 (by decide) ?_
  refine lv_iadd hx hb dL_law_1135 ?_
  refine oh_nrm (v := 1) (by decide) ?_
  refine va_sld hx hb hX hbl hbA hS (show vp_in 1 8 by unfold vp_in; decide) dL_law_1136 ?_
  refine oh_nrm (v := xs 1) rfl ?_
  refine lv_aload_n hx hb dL_law_1137 rfl (lv_at hl 3 rfl) ?_
  refine lv_iload_n hx hb dL_law_1138 rfl (lv_at hl 0 rfl) ?_
  refine lv_iconst (v := 2) hx hb dL_law_1139 (by decide) ?_
  refine lv_iadd hx hb dL_law_1140 ?_
  refine oh_nrm (v := 2) (by decide) ?_
  refine va_sld hx hb hX hbl hbA hS (show vp_in 2 8 by unfold vp_in; decide) dL_law_1141 ?_
  refine oh_nrm (v := xs 2) rfl ?_
  refine oh_mV (wr := []) (As := [.int (xs 1), .int (xs 2)]) (rest := [.int (-2)]) ⟨hx, hb, hml, hown, htg⟩ (c_X7_axle l D E G H.size (ma 0) (xs 1) (xs 2) (ma 1) (ma 2) (ma 3) (ma 4) (ma 5) (ma 6) (ma 7) (ma 8) (ma 9) (ma 10) (ma 11) (ma 12) (ma 13) (ma 14) (ma 15)) (cwV 2 htg (oh_gV q_1286 q_1287 q_1288 q_73 q_1289) rfl rfl rfl pdVX7_axle ⟨Nat.le_of_ble_eq_true rfl, Nat.le_of_ble_eq_true rfl⟩) hK hP hD hG hS hA [0, 8] [] rfl rfl (by decide) (by decide) (by decide) (va_recv hK hP (ci := 7) (q0 := 0) rfl rfl) rfl hl.1 rfl (Nat.le_of_ble_eq_true rfl) dL_law_1142 ⟨(show 109 ≤ 600000 from Nat.le_of_ble_eq_true rfl), (show 2593 ≤ 7302250 from Nat.le_of_ble_eq_true rfl)⟩ (fun r_2 u H locs hw hP hD hS => ?_)
  subst hw
  refine W.widen (k := 109) (n := 2593) (Nat.le_refl _) (Nat.le_refl _) ?_
  refine lv_icmp_eq (tgt := 2047) hx hb dL_law_1145 (by decide) (fun _ => ?_) (fun c => absurd (show (-2 : Int32) = (-2) from by decide) c)
  exact lw_end C0 hAe hS (lv_sub hl [0, 3] rfl) (show 109 ≤ 600000 from Nat.le_of_ble_eq_true rfl) (show 2593 ≤ 7302250 from Nat.le_of_ble_eq_true rfl)
set_option maxHeartbeats 4000000 in
set_option maxRecDepth 100000 in
/-- the law at one call of strain -/
theorem lc_strain {p : Program} {e : Env} {s : State} {m : MethodId} {below : List Frame} {meth : Method} {c : Code} (l : Launch) {b : Nat} {xs : Nat → Int32} (C0 : lw_At p s m meth c b 8 xs) {D : va_G} {E : Nat → ClassId} {G : Nat → Nat} {A : Nat → Prop} (hAe : A = fun q => s.heap.size ≤ q) (hK : va_K D vwCl (oh_ty E) s) (hG : oh_G G A s) {xa ma r1 r2 r3 r4 r5 : Nat → Nat} {H : Heap} {locs : List Loc} (hP : va_P D vwCl (lw_x E xa ++ lw_m E ma r1 r2 r3 r4 r5) H) (hD : va_D A (lw_x E xa ++ lw_m E ma r1 r2 r3 r4 r5)) (hS : va_S A s.heap H locs) {ls : Array Slot} (hl : lv_has ls 4 [(3, .int 0), (2, .ref (ma 0)), (1, .ref (xa 0)), (0, .ref b)]) : W p l e room_1 s m #[Value.ref b] below meth c H locs 109 2593 (lw_Z below #[Value.ref b] s) (F0 m 1150 ls []) := by
  obtain ⟨hx, hb, hr, hml, hown, hts, hX, hbl, hlocks, hgv⟩ := id C0
  have hown : s.vm.findClass RL = some m.cls := hown
  have htg : ∀ w ∈ oh_t, w.before _ s = true := fun w h => hts w (List.mem_filter.mp h).1
  have hA : ∀ q, s.heap.size ≤ q → A q := fun q h => by rw [hAe]; exact h
  have hbA : ¬ A b := by rw [hAe]; exact Nat.not_le.mpr hbl
  refine lv_aload_n hx hb dL_law_1150 rfl (lv_at hl 2 rfl) ?_
  refine lv_aload_n hx hb dL_law_1151 rfl (lv_at hl 3 rfl) ?_
  refine lv_iload_n hx hb dL_law_1152 rfl (lv_at hl 0 rfl) ?_
  refine lv_iconst (v := 1) hx hb dL_law_1153 (by decide) ?_
  refine lv_iadd hx hb dL_law_1154 ?_
  refine oh_nrm (v := 1) (by decide) ?_
  refine va_sld hx hb hX hbl hbA hS (show vp_in 1 8 by unfold vp_in; decide) dL_law_1155 ?_
  refine oh_nrm (v := xs 1) rfl ?_
  refine lv_aload_n hx hb dL_law_1156 rfl (lv_at hl 3 rfl) ?_
  refine lv_iload_n hx hb dL_law_1157 rfl (lv_at hl 0 rfl) ?_
  refine lv_iconst (v := 2) hx hb dL_law_1158 (by decide) ?_
  refine lv_iadd hx hb dL_law_1159 ?_
  refine oh_nrm (v := 2) (by decide) ?_
  refine va_sld hx hb hX hbl hbA hS (show vp_in 2 8 by unfold vp_in; decide) dL_law_1160 ?_
  refine oh_nrm (v := xs 2) rfl ?_
  refine lv_aload_n hx hb dL_law_1161 rfl (lv_at hl 3 rfl) ?_
  refine lv_iload_n hx hb dL_law_1162 rfl (lv_at hl 0 rfl) ?_
  refine lv_iconst (v := 3) hx hb dL_law_1163 (by decide) ?_
  refine lv_iadd hx hb dL_law_1164 ?_
  refine oh_nrm (v := 3) (by decide) ?_
  refine va_sld hx hb hX hbl hbA hS (show vp_in 3 8 by unfold vp_in; decide) dL_law_1165 ?_
  refine oh_nrm (v := xs 3) rfl ?_
  refine oh_lV (wx := lw_x E xa) (wm := lw_m E ma r1 r2 r3 r4 r5) (As := [.int (xs 1), .int (xs 2), .int (xs 3)]) (rest := []) ⟨hx, hb, hml, hown, htg⟩ (c_X6_strain l D E G H.size (xa 0) (xs 1) (xs 2) (xs 3) (xa 1) (xa 9) (xa 17) (xa 24) (xa 28) (xa 30) (xa 33) (xa 34) (xa 2) (xa 3) (xa 4) (xa 5) (xa 6) (xa 7) (xa 8)) (cwV 3 htg (oh_gV q_719 q_720 q_721 q_66 q_722) rfl rfl rfl pdVX6_strain ⟨Nat.le_of_ble_eq_true rfl, Nat.le_of_ble_eq_true rfl⟩) hK hP hD hG hS hA [0, 1, 2, 33] rfl (by decide) (show ∀ i ∈ ([0, 1, 2, 33] : List Nat), i < 35 by decide) (va_recv hK hP (ci := 6) (q0 := 0) rfl rfl) rfl hl.1 rfl (Nat.le_of_ble_eq_true rfl) dL_law_1166 ⟨(show 109 ≤ 600000 from Nat.le_of_ble_eq_true rfl), (show 2593 ≤ 7302250 from Nat.le_of_ble_eq_true rfl)⟩ (fun r_1 u H locs hw hP hD hS => ?_)
  subst hw
  refine W.widen (k := 109) (n := 2593) (Nat.le_refl _) (Nat.le_refl _) ?_
  refine lv_aload_n hx hb dL_law_1169 rfl (lv_at hl 1 rfl) ?_
  refine lv_aload_n hx hb dL_law_1170 rfl (lv_at hl 3 rfl) ?_
  refine lv_iload_n hx hb dL_law_1171 rfl (lv_at hl 0 rfl) ?_
  refine lv_iconst (v := 1) hx hb dL_law_1172 (by decide) ?_
  refine lv_iadd hx hb dL_law_1173 ?_
  refine oh_nrm (v := 1) (by decide) ?_
  refine va_sld hx hb hX hbl hbA hS (show vp_in 1 8 by unfold vp_in; decide) dL_law_1174 ?_
  refine oh_nrm (v := xs 1) rfl ?_
  refine lv_aload_n hx hb dL_law_1175 rfl (lv_at hl 3 rfl) ?_
  refine lv_iload_n hx hb dL_law_1176 rfl (lv_at hl 0 rfl) ?_
  refine lv_iconst (v := 2) hx hb dL_law_1177 (by decide) ?_
  refine lv_iadd hx hb dL_law_1178 ?_
  refine oh_nrm (v := 2) (by decide) ?_
  refine va_sld hx hb hX hbl hbA hS (show vp_in 2 8 by unfold vp_in; decide) dL_law_1179 ?_
  refine oh_nrm (v := xs 2) rfl ?_
  refine lv_aload_n hx hb dL_law_1180 rfl (lv_at hl 3 rfl) ?_
  refine lv_iload_n hx hb dL_law_1181 rfl (lv_at hl 0 rfl) ?_
  refine lv_iconst (v := 3) hx hb dL_law_1182 (by decide) ?_
  refine lv_iadd hx hb dL_law_1183 ?_
  refine oh_nrm (v := 3) (by decide) ?_
  refine va_sld hx hb hX hbl hbA hS (show vp_in 3 8 by unfold vp_in; decide) dL_law_1184 ?_
  refine oh_nrm (v := xs 3) rfl ?_
  refine oh_mV (wr := []) (As := [.int (xs 1), .int (xs 2), .int (xs 3)]) (rest := [.int (-2)]) ⟨hx, hb, hml, hown, htg⟩ (c_X7_strain l D E G H.size (ma 0) (xs 1) (xs 2) (xs 3) (ma 1) (ma 2) (ma 3) (ma 4) (ma 5) (ma 6) (ma 7) (ma 8) (ma 9) (ma 10) (ma 11) (ma 12) (ma 13) (ma 14) (ma 15)) (cwV 3 htg (oh_gV q_1298 q_1299 q_1300 q_73 q_1301) rfl rfl rfl pdVX7_strain ⟨Nat.le_of_ble_eq_true rfl, Nat.le_of_ble_eq_true rfl⟩) hK hP hD hG hS hA [0, 8] [] rfl rfl (by decide) (by decide) (by decide) (va_recv hK hP (ci := 7) (q0 := 0) rfl rfl) rfl hl.1 rfl (Nat.le_of_ble_eq_true rfl) dL_law_1185 ⟨(show 109 ≤ 600000 from Nat.le_of_ble_eq_true rfl), (show 2593 ≤ 7302250 from Nat.le_of_ble_eq_true rfl)⟩ (fun r_2 u H locs hw hP hD hS => ?_)
  subst hw
  refine W.widen (k := 109) (n := 2593) (Nat.le_refl _) (Nat.le_refl _) ?_
  refine lv_icmp_eq (tgt := 2047) hx hb dL_law_1188 (by decide) (fun _ => ?_) (fun c => absurd (show (-2 : Int32) = (-2) from by decide) c)
  exact lw_end C0 hAe hS (lv_sub hl [0, 3] rfl) (show 109 ≤ 600000 from Nat.le_of_ble_eq_true rfl) (show 2593 ≤ 7302250 from Nat.le_of_ble_eq_true rfl)
set_option maxHeartbeats 4000000 in
set_option maxRecDepth 100000 in
/-- the law at one call of needs -/
theorem lc_needs {p : Program} {e : Env} {s : State} {m : MethodId} {below : List Frame} {meth : Method} {c : Code} (l : Launch) {b : Nat} {xs : Nat → Int32} (C0 : lw_At p s m meth c b 8 xs) {D : va_G} {E : Nat → ClassId} {G : Nat → Nat} {A : Nat → Prop} (hAe : A = fun q => s.heap.size ≤ q) (hK : va_K D vwCl (oh_ty E) s) (hG : oh_G G A s) {xa ma r1 r2 r3 r4 r5 : Nat → Nat} {H : Heap} {locs : List Loc} (hP : va_P D vwCl (lw_x E xa ++ lw_m E ma r1 r2 r3 r4 r5) H) (hD : va_D A (lw_x E xa ++ lw_m E ma r1 r2 r3 r4 r5)) (hS : va_S A s.heap H locs) {ls : Array Slot} (hl : lv_has ls 4 [(3, .int 0), (2, .ref (ma 0)), (1, .ref (xa 0)), (0, .ref b)]) : W p l e room_1 s m #[Value.ref b] below meth c H locs 109 2593 (lw_Z below #[Value.ref b] s) (F0 m 1193 ls []) := by
  obtain ⟨hx, hb, hr, hml, hown, hts, hX, hbl, hlocks, hgv⟩ := id C0
  have hown : s.vm.findClass RL = some m.cls := hown
  have htg : ∀ w ∈ oh_t, w.before _ s = true := fun w h => hts w (List.mem_filter.mp h).1
  have hA : ∀ q, s.heap.size ≤ q → A q := fun q h => by rw [hAe]; exact h
  have hbA : ¬ A b := by rw [hAe]; exact Nat.not_le.mpr hbl
  refine lv_aload_n hx hb dL_law_1193 rfl (lv_at hl 2 rfl) ?_
  refine lv_aload_n hx hb dL_law_1194 rfl (lv_at hl 3 rfl) ?_
  refine lv_iload_n hx hb dL_law_1195 rfl (lv_at hl 0 rfl) ?_
  refine lv_iconst (v := 1) hx hb dL_law_1196 (by decide) ?_
  refine lv_iadd hx hb dL_law_1197 ?_
  refine oh_nrm (v := 1) (by decide) ?_
  refine va_sld hx hb hX hbl hbA hS (show vp_in 1 8 by unfold vp_in; decide) dL_law_1198 ?_
  refine oh_nrm (v := xs 1) rfl ?_
  refine lv_aload_n hx hb dL_law_1199 rfl (lv_at hl 3 rfl) ?_
  refine lv_iload_n hx hb dL_law_1200 rfl (lv_at hl 0 rfl) ?_
  refine lv_iconst (v := 2) hx hb dL_law_1201 (by decide) ?_
  refine lv_iadd hx hb dL_law_1202 ?_
  refine oh_nrm (v := 2) (by decide) ?_
  refine va_sld hx hb hX hbl hbA hS (show vp_in 2 8 by unfold vp_in; decide) dL_law_1203 ?_
  refine oh_nrm (v := xs 2) rfl ?_
  refine lv_aload_n hx hb dL_law_1204 rfl (lv_at hl 3 rfl) ?_
  refine lv_iload_n hx hb dL_law_1205 rfl (lv_at hl 0 rfl) ?_
  refine lv_iconst (v := 3) hx hb dL_law_1206 (by decide) ?_
  refine lv_iadd hx hb dL_law_1207 ?_
  refine oh_nrm (v := 3) (by decide) ?_
  refine va_sld hx hb hX hbl hbA hS (show vp_in 3 8 by unfold vp_in; decide) dL_law_1208 ?_
  refine oh_nrm (v := xs 3) rfl ?_
  refine oh_lV (wx := lw_x E xa) (wm := lw_m E ma r1 r2 r3 r4 r5) (As := [.int (xs 1), .int (xs 2), .int (xs 3)]) (rest := []) ⟨hx, hb, hml, hown, htg⟩ (c_X6_needs l D E G H.size (xa 0) (xs 1) (xs 2) (xs 3) (xa 1) (xa 9) (xa 17) (xa 24) (xa 28) (xa 30) (xa 33) (xa 34) (xa 2) (xa 3) (xa 4) (xa 5) (xa 6) (xa 7) (xa 8)) (cwV 3 htg (oh_gV q_733 q_734 q_735 q_66 q_736) rfl rfl rfl pdVX6_needs ⟨Nat.le_of_ble_eq_true rfl, Nat.le_of_ble_eq_true rfl⟩) hK hP hD hG hS hA [0, 1, 2, 33] rfl (by decide) (show ∀ i ∈ ([0, 1, 2, 33] : List Nat), i < 35 by decide) (va_recv hK hP (ci := 6) (q0 := 0) rfl rfl) rfl hl.1 rfl (Nat.le_of_ble_eq_true rfl) dL_law_1209 ⟨(show 109 ≤ 600000 from Nat.le_of_ble_eq_true rfl), (show 2593 ≤ 7302250 from Nat.le_of_ble_eq_true rfl)⟩ (fun r_1 u H locs hw hP hD hS => ?_)
  subst hw
  refine W.widen (k := 109) (n := 2593) (Nat.le_refl _) (Nat.le_refl _) ?_
  refine lv_aload_n hx hb dL_law_1212 rfl (lv_at hl 1 rfl) ?_
  refine lv_aload_n hx hb dL_law_1213 rfl (lv_at hl 3 rfl) ?_
  refine lv_iload_n hx hb dL_law_1214 rfl (lv_at hl 0 rfl) ?_
  refine lv_iconst (v := 1) hx hb dL_law_1215 (by decide) ?_
  refine lv_iadd hx hb dL_law_1216 ?_
  refine oh_nrm (v := 1) (by decide) ?_
  refine va_sld hx hb hX hbl hbA hS (show vp_in 1 8 by unfold vp_in; decide) dL_law_1217 ?_
  refine oh_nrm (v := xs 1) rfl ?_
  refine lv_aload_n hx hb dL_law_1218 rfl (lv_at hl 3 rfl) ?_
  refine lv_iload_n hx hb dL_law_1219 rfl (lv_at hl 0 rfl) ?_
  refine lv_iconst (v := 2) hx hb dL_law_1220 (by decide) ?_
  refine lv_iadd hx hb dL_law_1221 ?_
  refine oh_nrm (v := 2) (by decide) ?_
  refine va_sld hx hb hX hbl hbA hS (show vp_in 2 8 by unfold vp_in; decide) dL_law_1222 ?_
  refine oh_nrm (v := xs 2) rfl ?_
  refine lv_aload_n hx hb dL_law_1223 rfl (lv_at hl 3 rfl) ?_
  refine lv_iload_n hx hb dL_law_1224 rfl (lv_at hl 0 rfl) ?_
  refine lv_iconst (v := 3) hx hb dL_law_1225 (by decide) ?_
  refine lv_iadd hx hb dL_law_1226 ?_
  refine oh_nrm (v := 3) (by decide) ?_
  refine va_sld hx hb hX hbl hbA hS (show vp_in 3 8 by unfold vp_in; decide) dL_law_1227 ?_
  refine oh_nrm (v := xs 3) rfl ?_
  refine oh_mV (wr := []) (As := [.int (xs 1), .int (xs 2), .int (xs 3)]) (rest := [.int (-2)]) ⟨hx, hb, hml, hown, htg⟩ (c_X7_needs l D E G H.size (ma 0) (xs 1) (xs 2) (xs 3) (ma 1) (ma 2) (ma 3) (ma 4) (ma 5) (ma 6) (ma 7) (ma 8) (ma 9) (ma 10) (ma 11) (ma 12) (ma 13) (ma 14) (ma 15)) (cwV 3 htg (oh_gV q_1306 q_1307 q_1308 q_73 q_1309) rfl rfl rfl pdVX7_needs ⟨Nat.le_of_ble_eq_true rfl, Nat.le_of_ble_eq_true rfl⟩) hK hP hD hG hS hA [0, 8] [] rfl rfl (by decide) (by decide) (by decide) (va_recv hK hP (ci := 7) (q0 := 0) rfl rfl) rfl hl.1 rfl (Nat.le_of_ble_eq_true rfl) dL_law_1228 ⟨(show 109 ≤ 600000 from Nat.le_of_ble_eq_true rfl), (show 2593 ≤ 7302250 from Nat.le_of_ble_eq_true rfl)⟩ (fun r_2 u H locs hw hP hD hS => ?_)
  subst hw
  refine W.widen (k := 109) (n := 2593) (Nat.le_refl _) (Nat.le_refl _) ?_
  refine lv_icmp_eq (tgt := 2047) hx hb dL_law_1231 (by decide) (fun _ => ?_) (fun c => absurd (show (-2 : Int32) = (-2) from by decide) c)
  exact lw_end C0 hAe hS (lv_sub hl [0, 3] rfl) (show 109 ≤ 600000 from Nat.le_of_ble_eq_true rfl) (show 2593 ≤ 7302250 from Nat.le_of_ble_eq_true rfl)
set_option maxHeartbeats 4000000 in
set_option maxRecDepth 100000 in
/-- the law at one call of goes -/
theorem lc_goes {p : Program} {e : Env} {s : State} {m : MethodId} {below : List Frame} {meth : Method} {c : Code} (l : Launch) {b : Nat} {xs : Nat → Int32} (C0 : lw_At p s m meth c b 8 xs) {D : va_G} {E : Nat → ClassId} {G : Nat → Nat} {A : Nat → Prop} (hAe : A = fun q => s.heap.size ≤ q) (hK : va_K D vwCl (oh_ty E) s) (hG : oh_G G A s) {xa ma r1 r2 r3 r4 r5 : Nat → Nat} {H : Heap} {locs : List Loc} (hP : va_P D vwCl (lw_x E xa ++ lw_m E ma r1 r2 r3 r4 r5) H) (hD : va_D A (lw_x E xa ++ lw_m E ma r1 r2 r3 r4 r5)) (hS : va_S A s.heap H locs) {ls : Array Slot} (hl : lv_has ls 4 [(3, .int 0), (2, .ref (ma 0)), (1, .ref (xa 0)), (0, .ref b)]) : W p l e room_1 s m #[Value.ref b] below meth c H locs 109 2593 (lw_Z below #[Value.ref b] s) (F0 m 1236 ls []) := by
  obtain ⟨hx, hb, hr, hml, hown, hts, hX, hbl, hlocks, hgv⟩ := id C0
  have hown : s.vm.findClass RL = some m.cls := hown
  have htg : ∀ w ∈ oh_t, w.before _ s = true := fun w h => hts w (List.mem_filter.mp h).1
  have hA : ∀ q, s.heap.size ≤ q → A q := fun q h => by rw [hAe]; exact h
  have hbA : ¬ A b := by rw [hAe]; exact Nat.not_le.mpr hbl
  refine lv_aload_n hx hb dL_law_1236 rfl (lv_at hl 2 rfl) ?_
  refine lv_aload_n hx hb dL_law_1237 rfl (lv_at hl 3 rfl) ?_
  refine lv_iload_n hx hb dL_law_1238 rfl (lv_at hl 0 rfl) ?_
  refine lv_iconst (v := 1) hx hb dL_law_1239 (by decide) ?_
  refine lv_iadd hx hb dL_law_1240 ?_
  refine oh_nrm (v := 1) (by decide) ?_
  refine va_sld hx hb hX hbl hbA hS (show vp_in 1 8 by unfold vp_in; decide) dL_law_1241 ?_
  refine oh_nrm (v := xs 1) rfl ?_
  refine lv_aload_n hx hb dL_law_1242 rfl (lv_at hl 3 rfl) ?_
  refine lv_iload_n hx hb dL_law_1243 rfl (lv_at hl 0 rfl) ?_
  refine lv_iconst (v := 2) hx hb dL_law_1244 (by decide) ?_
  refine lv_iadd hx hb dL_law_1245 ?_
  refine oh_nrm (v := 2) (by decide) ?_
  refine va_sld hx hb hX hbl hbA hS (show vp_in 2 8 by unfold vp_in; decide) dL_law_1246 ?_
  refine oh_nrm (v := xs 2) rfl ?_
  refine lv_aload_n hx hb dL_law_1247 rfl (lv_at hl 3 rfl) ?_
  refine lv_iload_n hx hb dL_law_1248 rfl (lv_at hl 0 rfl) ?_
  refine lv_iconst (v := 3) hx hb dL_law_1249 (by decide) ?_
  refine lv_iadd hx hb dL_law_1250 ?_
  refine oh_nrm (v := 3) (by decide) ?_
  refine va_sld hx hb hX hbl hbA hS (show vp_in 3 8 by unfold vp_in; decide) dL_law_1251 ?_
  refine oh_nrm (v := xs 3) rfl ?_
  refine lv_aload_n hx hb dL_law_1252 rfl (lv_at hl 3 rfl) ?_
  refine lv_iload_n hx hb dL_law_1253 rfl (lv_at hl 0 rfl) ?_
  refine lv_iconst (v := 4) hx hb dL_law_1254 (by decide) ?_
  refine lv_iadd hx hb dL_law_1255 ?_
  refine oh_nrm (v := 4) (by decide) ?_
  refine va_sld hx hb hX hbl hbA hS (show vp_in 4 8 by unfold vp_in; decide) dL_law_1256 ?_
  refine oh_nrm (v := xs 4) rfl ?_
  refine oh_lV (wx := lw_x E xa) (wm := lw_m E ma r1 r2 r3 r4 r5) (As := [.int (xs 1), .int (xs 2), .int (xs 3), .int (xs 4)]) (rest := []) ⟨hx, hb, hml, hown, htg⟩ (c_X6_goes l D E G H.size (xa 0) (xs 1) (xs 2) (xs 3) (xs 4) (xa 1) (xa 9) (xa 17) (xa 24) (xa 28) (xa 30) (xa 33) (xa 34) (xa 2) (xa 3) (xa 4) (xa 5) (xa 6) (xa 7) (xa 8)) (cwV 4 htg (oh_gV q_746 q_747 q_748 q_66 q_749) rfl rfl rfl pdVX6_goes ⟨Nat.le_of_ble_eq_true rfl, Nat.le_of_ble_eq_true rfl⟩) hK hP hD hG hS hA [0, 1, 2, 33] rfl (by decide) (show ∀ i ∈ ([0, 1, 2, 33] : List Nat), i < 35 by decide) (va_recv hK hP (ci := 6) (q0 := 0) rfl rfl) rfl hl.1 rfl (Nat.le_of_ble_eq_true rfl) dL_law_1257 ⟨(show 109 ≤ 600000 from Nat.le_of_ble_eq_true rfl), (show 2593 ≤ 7302250 from Nat.le_of_ble_eq_true rfl)⟩ (fun r_1 u H locs hw hP hD hS => ?_)
  subst hw
  refine W.widen (k := 109) (n := 2593) (Nat.le_refl _) (Nat.le_refl _) ?_
  refine lv_aload_n hx hb dL_law_1260 rfl (lv_at hl 1 rfl) ?_
  refine lv_aload_n hx hb dL_law_1261 rfl (lv_at hl 3 rfl) ?_
  refine lv_iload_n hx hb dL_law_1262 rfl (lv_at hl 0 rfl) ?_
  refine lv_iconst (v := 1) hx hb dL_law_1263 (by decide) ?_
  refine lv_iadd hx hb dL_law_1264 ?_
  refine oh_nrm (v := 1) (by decide) ?_
  refine va_sld hx hb hX hbl hbA hS (show vp_in 1 8 by unfold vp_in; decide) dL_law_1265 ?_
  refine oh_nrm (v := xs 1) rfl ?_
  refine lv_aload_n hx hb dL_law_1266 rfl (lv_at hl 3 rfl) ?_
  refine lv_iload_n hx hb dL_law_1267 rfl (lv_at hl 0 rfl) ?_
  refine lv_iconst (v := 2) hx hb dL_law_1268 (by decide) ?_
  refine lv_iadd hx hb dL_law_1269 ?_
  refine oh_nrm (v := 2) (by decide) ?_
  refine va_sld hx hb hX hbl hbA hS (show vp_in 2 8 by unfold vp_in; decide) dL_law_1270 ?_
  refine oh_nrm (v := xs 2) rfl ?_
  refine lv_aload_n hx hb dL_law_1271 rfl (lv_at hl 3 rfl) ?_
  refine lv_iload_n hx hb dL_law_1272 rfl (lv_at hl 0 rfl) ?_
  refine lv_iconst (v := 3) hx hb dL_law_1273 (by decide) ?_
  refine lv_iadd hx hb dL_law_1274 ?_
  refine oh_nrm (v := 3) (by decide) ?_
  refine va_sld hx hb hX hbl hbA hS (show vp_in 3 8 by unfold vp_in; decide) dL_law_1275 ?_
  refine oh_nrm (v := xs 3) rfl ?_
  refine lv_aload_n hx hb dL_law_1276 rfl (lv_at hl 3 rfl) ?_
  refine lv_iload_n hx hb dL_law_1277 rfl (lv_at hl 0 rfl) ?_
  refine lv_iconst (v := 4) hx hb dL_law_1278 (by decide) ?_
  refine lv_iadd hx hb dL_law_1279 ?_
  refine oh_nrm (v := 4) (by decide) ?_
  refine va_sld hx hb hX hbl hbA hS (show vp_in 4 8 by unfold vp_in; decide) dL_law_1280 ?_
  refine oh_nrm (v := xs 4) rfl ?_
  refine oh_mV (wr := []) (As := [.int (xs 1), .int (xs 2), .int (xs 3), .int (xs 4)]) (rest := [.int (-2)]) ⟨hx, hb, hml, hown, htg⟩ (c_X7_goes l D E G H.size (ma 0) (xs 1) (xs 2) (xs 3) (xs 4) (ma 1) (ma 2) (ma 3) (ma 4) (ma 5) (ma 6) (ma 7) (ma 8) (ma 9) (ma 10) (ma 11) (ma 12) (ma 13) (ma 14) (ma 15)) (cwV 4 htg (oh_gV q_1314 q_1315 q_1316 q_73 q_1317) rfl rfl rfl pdVX7_goes ⟨Nat.le_of_ble_eq_true rfl, Nat.le_of_ble_eq_true rfl⟩) hK hP hD hG hS hA [0, 8] [] rfl rfl (by decide) (by decide) (by decide) (va_recv hK hP (ci := 7) (q0 := 0) rfl rfl) rfl hl.1 rfl (Nat.le_of_ble_eq_true rfl) dL_law_1281 ⟨(show 109 ≤ 600000 from Nat.le_of_ble_eq_true rfl), (show 2593 ≤ 7302250 from Nat.le_of_ble_eq_true rfl)⟩ (fun r_2 u H locs hw hP hD hS => ?_)
  subst hw
  refine W.widen (k := 109) (n := 2593) (Nat.le_refl _) (Nat.le_refl _) ?_
  refine lv_icmp_eq (tgt := 2047) hx hb dL_law_1284 (by decide) (fun _ => ?_) (fun c => absurd (show (-2 : Int32) = (-2) from by decide) c)
  exact lw_end C0 hAe hS (lv_sub hl [0, 3] rfl) (show 109 ≤ 600000 from Nat.le_of_ble_eq_true rfl) (show 2593 ≤ 7302250 from Nat.le_of_ble_eq_true rfl)
set_option maxHeartbeats 4000000 in
set_option maxRecDepth 100000 in
/-- the law at one call of cheapest -/
theorem lc_cheapest {p : Program} {e : Env} {s : State} {m : MethodId} {below : List Frame} {meth : Method} {c : Code} (l : Launch) {b : Nat} {xs : Nat → Int32} (C0 : lw_At p s m meth c b 8 xs) {D : va_G} {E : Nat → ClassId} {G : Nat → Nat} {A : Nat → Prop} (hAe : A = fun q => s.heap.size ≤ q) (hK : va_K D vwCl (oh_ty E) s) (hG : oh_G G A s) {xa ma r1 r2 r3 r4 r5 : Nat → Nat} {H : Heap} {locs : List Loc} (hP : va_P D vwCl (lw_x E xa ++ lw_m E ma r1 r2 r3 r4 r5) H) (hD : va_D A (lw_x E xa ++ lw_m E ma r1 r2 r3 r4 r5)) (hS : va_S A s.heap H locs) {ls : Array Slot} (hl : lv_has ls 4 [(3, .int 0), (2, .ref (ma 0)), (1, .ref (xa 0)), (0, .ref b)]) : W p l e room_1 s m #[Value.ref b] below meth c H locs 109 2593 (lw_Z below #[Value.ref b] s) (F0 m 1289 ls []) := by
  obtain ⟨hx, hb, hr, hml, hown, hts, hX, hbl, hlocks, hgv⟩ := id C0
  have hown : s.vm.findClass RL = some m.cls := hown
  have htg : ∀ w ∈ oh_t, w.before _ s = true := fun w h => hts w (List.mem_filter.mp h).1
  have hA : ∀ q, s.heap.size ≤ q → A q := fun q h => by rw [hAe]; exact h
  have hbA : ¬ A b := by rw [hAe]; exact Nat.not_le.mpr hbl
  refine lv_aload_n hx hb dL_law_1289 rfl (lv_at hl 2 rfl) ?_
  refine lv_aload_n hx hb dL_law_1290 rfl (lv_at hl 3 rfl) ?_
  refine lv_iload_n hx hb dL_law_1291 rfl (lv_at hl 0 rfl) ?_
  refine lv_iconst (v := 1) hx hb dL_law_1292 (by decide) ?_
  refine lv_iadd hx hb dL_law_1293 ?_
  refine oh_nrm (v := 1) (by decide) ?_
  refine va_sld hx hb hX hbl hbA hS (show vp_in 1 8 by unfold vp_in; decide) dL_law_1294 ?_
  refine oh_nrm (v := xs 1) rfl ?_
  refine lv_aload_n hx hb dL_law_1295 rfl (lv_at hl 3 rfl) ?_
  refine lv_iload_n hx hb dL_law_1296 rfl (lv_at hl 0 rfl) ?_
  refine lv_iconst (v := 2) hx hb dL_law_1297 (by decide) ?_
  refine lv_iadd hx hb dL_law_1298 ?_
  refine oh_nrm (v := 2) (by decide) ?_
  refine va_sld hx hb hX hbl hbA hS (show vp_in 2 8 by unfold vp_in; decide) dL_law_1299 ?_
  refine oh_nrm (v := xs 2) rfl ?_
  refine lv_aload_n hx hb dL_law_1300 rfl (lv_at hl 3 rfl) ?_
  refine lv_iload_n hx hb dL_law_1301 rfl (lv_at hl 0 rfl) ?_
  refine lv_iconst (v := 3) hx hb dL_law_1302 (by decide) ?_
  refine lv_iadd hx hb dL_law_1303 ?_
  refine oh_nrm (v := 3) (by decide) ?_
  refine va_sld hx hb hX hbl hbA hS (show vp_in 3 8 by unfold vp_in; decide) dL_law_1304 ?_
  refine oh_nrm (v := xs 3) rfl ?_
  refine lv_aload_n hx hb dL_law_1305 rfl (lv_at hl 3 rfl) ?_
  refine lv_iload_n hx hb dL_law_1306 rfl (lv_at hl 0 rfl) ?_
  refine lv_iconst (v := 4) hx hb dL_law_1307 (by decide) ?_
  refine lv_iadd hx hb dL_law_1308 ?_
  refine oh_nrm (v := 4) (by decide) ?_
  refine va_sld hx hb hX hbl hbA hS (show vp_in 4 8 by unfold vp_in; decide) dL_law_1309 ?_
  refine oh_nrm (v := xs 4) rfl ?_
  refine oh_lV (wx := lw_x E xa) (wm := lw_m E ma r1 r2 r3 r4 r5) (As := [.int (xs 1), .int (xs 2), .int (xs 3), .int (xs 4)]) (rest := []) ⟨hx, hb, hml, hown, htg⟩ (c_X6_cheapest l D E G H.size (xa 0) (xs 1) (xs 2) (xs 3) (xs 4) (xa 1) (xa 9) (xa 17) (xa 24) (xa 28) (xa 30) (xa 33) (xa 34) (xa 2) (xa 3) (xa 4) (xa 5) (xa 6) (xa 7) (xa 8)) (cwV 4 htg (oh_gV q_772 q_773 q_774 q_66 q_775) rfl rfl rfl pdVX6_cheapest ⟨Nat.le_of_ble_eq_true rfl, Nat.le_of_ble_eq_true rfl⟩) hK hP hD hG hS hA [0, 1, 2, 33] rfl (by decide) (show ∀ i ∈ ([0, 1, 2, 33] : List Nat), i < 35 by decide) (va_recv hK hP (ci := 6) (q0 := 0) rfl rfl) rfl hl.1 rfl (Nat.le_of_ble_eq_true rfl) dL_law_1310 ⟨(show 109 ≤ 600000 from Nat.le_of_ble_eq_true rfl), (show 2593 ≤ 7302250 from Nat.le_of_ble_eq_true rfl)⟩ (fun r_1 u H locs hw hP hD hS => ?_)
  subst hw
  refine W.widen (k := 109) (n := 2593) (Nat.le_refl _) (Nat.le_refl _) ?_
  refine lv_aload_n hx hb dL_law_1313 rfl (lv_at hl 1 rfl) ?_
  refine lv_aload_n hx hb dL_law_1314 rfl (lv_at hl 3 rfl) ?_
  refine lv_iload_n hx hb dL_law_1315 rfl (lv_at hl 0 rfl) ?_
  refine lv_iconst (v := 1) hx hb dL_law_1316 (by decide) ?_
  refine lv_iadd hx hb dL_law_1317 ?_
  refine oh_nrm (v := 1) (by decide) ?_
  refine va_sld hx hb hX hbl hbA hS (show vp_in 1 8 by unfold vp_in; decide) dL_law_1318 ?_
  refine oh_nrm (v := xs 1) rfl ?_
  refine lv_aload_n hx hb dL_law_1319 rfl (lv_at hl 3 rfl) ?_
  refine lv_iload_n hx hb dL_law_1320 rfl (lv_at hl 0 rfl) ?_
  refine lv_iconst (v := 2) hx hb dL_law_1321 (by decide) ?_
  refine lv_iadd hx hb dL_law_1322 ?_
  refine oh_nrm (v := 2) (by decide) ?_
  refine va_sld hx hb hX hbl hbA hS (show vp_in 2 8 by unfold vp_in; decide) dL_law_1323 ?_
  refine oh_nrm (v := xs 2) rfl ?_
  refine lv_aload_n hx hb dL_law_1324 rfl (lv_at hl 3 rfl) ?_
  refine lv_iload_n hx hb dL_law_1325 rfl (lv_at hl 0 rfl) ?_
  refine lv_iconst (v := 3) hx hb dL_law_1326 (by decide) ?_
  refine lv_iadd hx hb dL_law_1327 ?_
  refine oh_nrm (v := 3) (by decide) ?_
  refine va_sld hx hb hX hbl hbA hS (show vp_in 3 8 by unfold vp_in; decide) dL_law_1328 ?_
  refine oh_nrm (v := xs 3) rfl ?_
  refine lv_aload_n hx hb dL_law_1329 rfl (lv_at hl 3 rfl) ?_
  refine lv_iload_n hx hb dL_law_1330 rfl (lv_at hl 0 rfl) ?_
  refine lv_iconst (v := 4) hx hb dL_law_1331 (by decide) ?_
  refine lv_iadd hx hb dL_law_1332 ?_
  refine oh_nrm (v := 4) (by decide) ?_
  refine va_sld hx hb hX hbl hbA hS (show vp_in 4 8 by unfold vp_in; decide) dL_law_1333 ?_
  refine oh_nrm (v := xs 4) rfl ?_
  refine oh_mV (wr := []) (As := [.int (xs 1), .int (xs 2), .int (xs 3), .int (xs 4)]) (rest := [.int (-2)]) ⟨hx, hb, hml, hown, htg⟩ (c_X7_cheapest l D E G H.size (ma 0) (xs 1) (xs 2) (xs 3) (xs 4) (ma 1) (ma 2) (ma 3) (ma 4) (ma 5) (ma 6) (ma 7) (ma 8) (ma 9) (ma 10) (ma 11) (ma 12) (ma 13) (ma 14) (ma 15)) (cwV 4 htg (oh_gV q_1338 q_1339 q_1340 q_73 q_1341) rfl rfl rfl pdVX7_cheapest ⟨Nat.le_of_ble_eq_true rfl, Nat.le_of_ble_eq_true rfl⟩) hK hP hD hG hS hA [0, 8] [] rfl rfl (by decide) (by decide) (by decide) (va_recv hK hP (ci := 7) (q0 := 0) rfl rfl) rfl hl.1 rfl (Nat.le_of_ble_eq_true rfl) dL_law_1334 ⟨(show 109 ≤ 600000 from Nat.le_of_ble_eq_true rfl), (show 2593 ≤ 7302250 from Nat.le_of_ble_eq_true rfl)⟩ (fun r_2 u H locs hw hP hD hS => ?_)
  subst hw
  refine W.widen (k := 109) (n := 2593) (Nat.le_refl _) (Nat.le_refl _) ?_
  refine lv_icmp_eq (tgt := 2047) hx hb dL_law_1337 (by decide) (fun _ => ?_) (fun c => absurd (show (-2 : Int32) = (-2) from by decide) c)
  exact lw_end C0 hAe hS (lv_sub hl [0, 3] rfl) (show 109 ≤ 600000 from Nat.le_of_ble_eq_true rfl) (show 2593 ≤ 7302250 from Nat.le_of_ble_eq_true rfl)
set_option maxHeartbeats 4000000 in
set_option maxRecDepth 100000 in
/-- the law at one call of soonest -/
theorem lc_soonest {p : Program} {e : Env} {s : State} {m : MethodId} {below : List Frame} {meth : Method} {c : Code} (l : Launch) {b : Nat} {xs : Nat → Int32} (C0 : lw_At p s m meth c b 8 xs) {D : va_G} {E : Nat → ClassId} {G : Nat → Nat} {A : Nat → Prop} (hAe : A = fun q => s.heap.size ≤ q) (hK : va_K D vwCl (oh_ty E) s) (hG : oh_G G A s) {xa ma r1 r2 r3 r4 r5 : Nat → Nat} {H : Heap} {locs : List Loc} (hP : va_P D vwCl (lw_x E xa ++ lw_m E ma r1 r2 r3 r4 r5) H) (hD : va_D A (lw_x E xa ++ lw_m E ma r1 r2 r3 r4 r5)) (hS : va_S A s.heap H locs) {ls : Array Slot} (hl : lv_has ls 4 [(3, .int 0), (2, .ref (ma 0)), (1, .ref (xa 0)), (0, .ref b)]) : W p l e room_1 s m #[Value.ref b] below meth c H locs 109 2593 (lw_Z below #[Value.ref b] s) (F0 m 1342 ls []) := by
  obtain ⟨hx, hb, hr, hml, hown, hts, hX, hbl, hlocks, hgv⟩ := id C0
  have hown : s.vm.findClass RL = some m.cls := hown
  have htg : ∀ w ∈ oh_t, w.before _ s = true := fun w h => hts w (List.mem_filter.mp h).1
  have hA : ∀ q, s.heap.size ≤ q → A q := fun q h => by rw [hAe]; exact h
  have hbA : ¬ A b := by rw [hAe]; exact Nat.not_le.mpr hbl
  refine lv_aload_n hx hb dL_law_1342 rfl (lv_at hl 2 rfl) ?_
  refine lv_aload_n hx hb dL_law_1343 rfl (lv_at hl 3 rfl) ?_
  refine lv_iload_n hx hb dL_law_1344 rfl (lv_at hl 0 rfl) ?_
  refine lv_iconst (v := 1) hx hb dL_law_1345 (by decide) ?_
  refine lv_iadd hx hb dL_law_1346 ?_
  refine oh_nrm (v := 1) (by decide) ?_
  refine va_sld hx hb hX hbl hbA hS (show vp_in 1 8 by unfold vp_in; decide) dL_law_1347 ?_
  refine oh_nrm (v := xs 1) rfl ?_
  refine lv_aload_n hx hb dL_law_1348 rfl (lv_at hl 3 rfl) ?_
  refine lv_iload_n hx hb dL_law_1349 rfl (lv_at hl 0 rfl) ?_
  refine lv_iconst (v := 2) hx hb dL_law_1350 (by decide) ?_
  refine lv_iadd hx hb dL_law_1351 ?_
  refine oh_nrm (v := 2) (by decide) ?_
  refine va_sld hx hb hX hbl hbA hS (show vp_in 2 8 by unfold vp_in; decide) dL_law_1352 ?_
  refine oh_nrm (v := xs 2) rfl ?_
  refine lv_aload_n hx hb dL_law_1353 rfl (lv_at hl 3 rfl) ?_
  refine lv_iload_n hx hb dL_law_1354 rfl (lv_at hl 0 rfl) ?_
  refine lv_iconst (v := 3) hx hb dL_law_1355 (by decide) ?_
  refine lv_iadd hx hb dL_law_1356 ?_
  refine oh_nrm (v := 3) (by decide) ?_
  refine va_sld hx hb hX hbl hbA hS (show vp_in 3 8 by unfold vp_in; decide) dL_law_1357 ?_
  refine oh_nrm (v := xs 3) rfl ?_
  refine lv_aload_n hx hb dL_law_1358 rfl (lv_at hl 3 rfl) ?_
  refine lv_iload_n hx hb dL_law_1359 rfl (lv_at hl 0 rfl) ?_
  refine lv_iconst (v := 4) hx hb dL_law_1360 (by decide) ?_
  refine lv_iadd hx hb dL_law_1361 ?_
  refine oh_nrm (v := 4) (by decide) ?_
  refine va_sld hx hb hX hbl hbA hS (show vp_in 4 8 by unfold vp_in; decide) dL_law_1362 ?_
  refine oh_nrm (v := xs 4) rfl ?_
  refine oh_lV (wx := lw_x E xa) (wm := lw_m E ma r1 r2 r3 r4 r5) (As := [.int (xs 1), .int (xs 2), .int (xs 3), .int (xs 4)]) (rest := []) ⟨hx, hb, hml, hown, htg⟩ (c_X6_soonest l D E G H.size (xa 0) (xs 1) (xs 2) (xs 3) (xs 4) (xa 1) (xa 9) (xa 17) (xa 24) (xa 28) (xa 30) (xa 33) (xa 34) (xa 2) (xa 3) (xa 4) (xa 5) (xa 6) (xa 7) (xa 8)) (cwV 4 htg (oh_gV q_804 q_805 q_806 q_66 q_807) rfl rfl rfl pdVX6_soonest ⟨Nat.le_of_ble_eq_true rfl, Nat.le_of_ble_eq_true rfl⟩) hK hP hD hG hS hA [0, 1, 2, 33] rfl (by decide) (show ∀ i ∈ ([0, 1, 2, 33] : List Nat), i < 35 by decide) (va_recv hK hP (ci := 6) (q0 := 0) rfl rfl) rfl hl.1 rfl (Nat.le_of_ble_eq_true rfl) dL_law_1363 ⟨(show 109 ≤ 600000 from Nat.le_of_ble_eq_true rfl), (show 2593 ≤ 7302250 from Nat.le_of_ble_eq_true rfl)⟩ (fun r_1 u H locs hw hP hD hS => ?_)
  subst hw
  refine W.widen (k := 109) (n := 2593) (Nat.le_refl _) (Nat.le_refl _) ?_
  refine lv_aload_n hx hb dL_law_1366 rfl (lv_at hl 1 rfl) ?_
  refine lv_aload_n hx hb dL_law_1367 rfl (lv_at hl 3 rfl) ?_
  refine lv_iload_n hx hb dL_law_1368 rfl (lv_at hl 0 rfl) ?_
  refine lv_iconst (v := 1) hx hb dL_law_1369 (by decide) ?_
  refine lv_iadd hx hb dL_law_1370 ?_
  refine oh_nrm (v := 1) (by decide) ?_
  refine va_sld hx hb hX hbl hbA hS (show vp_in 1 8 by unfold vp_in; decide) dL_law_1371 ?_
  refine oh_nrm (v := xs 1) rfl ?_
  refine lv_aload_n hx hb dL_law_1372 rfl (lv_at hl 3 rfl) ?_
  refine lv_iload_n hx hb dL_law_1373 rfl (lv_at hl 0 rfl) ?_
  refine lv_iconst (v := 2) hx hb dL_law_1374 (by decide) ?_
  refine lv_iadd hx hb dL_law_1375 ?_
  refine oh_nrm (v := 2) (by decide) ?_
  refine va_sld hx hb hX hbl hbA hS (show vp_in 2 8 by unfold vp_in; decide) dL_law_1376 ?_
  refine oh_nrm (v := xs 2) rfl ?_
  refine lv_aload_n hx hb dL_law_1377 rfl (lv_at hl 3 rfl) ?_
  refine lv_iload_n hx hb dL_law_1378 rfl (lv_at hl 0 rfl) ?_
  refine lv_iconst (v := 3) hx hb dL_law_1379 (by decide) ?_
  refine lv_iadd hx hb dL_law_1380 ?_
  refine oh_nrm (v := 3) (by decide) ?_
  refine va_sld hx hb hX hbl hbA hS (show vp_in 3 8 by unfold vp_in; decide) dL_law_1381 ?_
  refine oh_nrm (v := xs 3) rfl ?_
  refine lv_aload_n hx hb dL_law_1382 rfl (lv_at hl 3 rfl) ?_
  refine lv_iload_n hx hb dL_law_1383 rfl (lv_at hl 0 rfl) ?_
  refine lv_iconst (v := 4) hx hb dL_law_1384 (by decide) ?_
  refine lv_iadd hx hb dL_law_1385 ?_
  refine oh_nrm (v := 4) (by decide) ?_
  refine va_sld hx hb hX hbl hbA hS (show vp_in 4 8 by unfold vp_in; decide) dL_law_1386 ?_
  refine oh_nrm (v := xs 4) rfl ?_
  refine oh_mV (wr := []) (As := [.int (xs 1), .int (xs 2), .int (xs 3), .int (xs 4)]) (rest := [.int (-2)]) ⟨hx, hb, hml, hown, htg⟩ (c_X7_soonest l D E G H.size (ma 0) (xs 1) (xs 2) (xs 3) (xs 4) (ma 1) (ma 2) (ma 3) (ma 4) (ma 5) (ma 6) (ma 7) (ma 8) (ma 9) (ma 10) (ma 11) (ma 12) (ma 13) (ma 14) (ma 15)) (cwV 4 htg (oh_gV q_1360 q_1361 q_1362 q_73 q_1363) rfl rfl rfl pdVX7_soonest ⟨Nat.le_of_ble_eq_true rfl, Nat.le_of_ble_eq_true rfl⟩) hK hP hD hG hS hA [0, 8] [] rfl rfl (by decide) (by decide) (by decide) (va_recv hK hP (ci := 7) (q0 := 0) rfl rfl) rfl hl.1 rfl (Nat.le_of_ble_eq_true rfl) dL_law_1387 ⟨(show 109 ≤ 600000 from Nat.le_of_ble_eq_true rfl), (show 2593 ≤ 7302250 from Nat.le_of_ble_eq_true rfl)⟩ (fun r_2 u H locs hw hP hD hS => ?_)
  subst hw
  refine W.widen (k := 109) (n := 2593) (Nat.le_refl _) (Nat.le_refl _) ?_
  refine lv_icmp_eq (tgt := 2047) hx hb dL_law_1390 (by decide) (fun _ => ?_) (fun c => absurd (show (-2 : Int32) = (-2) from by decide) c)
  exact lw_end C0 hAe hS (lv_sub hl [0, 3] rfl) (show 109 ≤ 600000 from Nat.le_of_ble_eq_true rfl) (show 2593 ≤ 7302250 from Nat.le_of_ble_eq_true rfl)
set_option maxHeartbeats 4000000 in
set_option maxRecDepth 100000 in
/-- the law at one call of again -/
theorem lc_again {p : Program} {e : Env} {s : State} {m : MethodId} {below : List Frame} {meth : Method} {c : Code} (l : Launch) {b : Nat} {xs : Nat → Int32} (C0 : lw_At p s m meth c b 8 xs) {D : va_G} {E : Nat → ClassId} {G : Nat → Nat} {A : Nat → Prop} (hAe : A = fun q => s.heap.size ≤ q) (hK : va_K D vwCl (oh_ty E) s) (hG : oh_G G A s) {xa ma r1 r2 r3 r4 r5 : Nat → Nat} {H : Heap} {locs : List Loc} (hP : va_P D vwCl (lw_x E xa ++ lw_m E ma r1 r2 r3 r4 r5) H) (hD : va_D A (lw_x E xa ++ lw_m E ma r1 r2 r3 r4 r5)) (hS : va_S A s.heap H locs) {ls : Array Slot} (hl : lv_has ls 4 [(3, .int 0), (2, .ref (ma 0)), (1, .ref (xa 0)), (0, .ref b)]) : W p l e room_1 s m #[Value.ref b] below meth c H locs 109 2593 (lw_Z below #[Value.ref b] s) (F0 m 1395 ls []) := by
  obtain ⟨hx, hb, hr, hml, hown, hts, hX, hbl, hlocks, hgv⟩ := id C0
  have hown : s.vm.findClass RL = some m.cls := hown
  have htg : ∀ w ∈ oh_t, w.before _ s = true := fun w h => hts w (List.mem_filter.mp h).1
  have hA : ∀ q, s.heap.size ≤ q → A q := fun q h => by rw [hAe]; exact h
  have hbA : ¬ A b := by rw [hAe]; exact Nat.not_le.mpr hbl
  refine lv_aload_n hx hb dL_law_1395 rfl (lv_at hl 2 rfl) ?_
  refine lv_aload_n hx hb dL_law_1396 rfl (lv_at hl 3 rfl) ?_
  refine lv_iload_n hx hb dL_law_1397 rfl (lv_at hl 0 rfl) ?_
  refine lv_iconst (v := 1) hx hb dL_law_1398 (by decide) ?_
  refine lv_iadd hx hb dL_law_1399 ?_
  refine oh_nrm (v := 1) (by decide) ?_
  refine va_sld hx hb hX hbl hbA hS (show vp_in 1 8 by unfold vp_in; decide) dL_law_1400 ?_
  refine oh_nrm (v := xs 1) rfl ?_
  refine lv_aload_n hx hb dL_law_1401 rfl (lv_at hl 3 rfl) ?_
  refine lv_iload_n hx hb dL_law_1402 rfl (lv_at hl 0 rfl) ?_
  refine lv_iconst (v := 2) hx hb dL_law_1403 (by decide) ?_
  refine lv_iadd hx hb dL_law_1404 ?_
  refine oh_nrm (v := 2) (by decide) ?_
  refine va_sld hx hb hX hbl hbA hS (show vp_in 2 8 by unfold vp_in; decide) dL_law_1405 ?_
  refine oh_nrm (v := xs 2) rfl ?_
  refine lv_aload_n hx hb dL_law_1406 rfl (lv_at hl 3 rfl) ?_
  refine lv_iload_n hx hb dL_law_1407 rfl (lv_at hl 0 rfl) ?_
  refine lv_iconst (v := 3) hx hb dL_law_1408 (by decide) ?_
  refine lv_iadd hx hb dL_law_1409 ?_
  refine oh_nrm (v := 3) (by decide) ?_
  refine va_sld hx hb hX hbl hbA hS (show vp_in 3 8 by unfold vp_in; decide) dL_law_1410 ?_
  refine oh_nrm (v := xs 3) rfl ?_
  refine lv_aload_n hx hb dL_law_1411 rfl (lv_at hl 3 rfl) ?_
  refine lv_iload_n hx hb dL_law_1412 rfl (lv_at hl 0 rfl) ?_
  refine lv_iconst (v := 4) hx hb dL_law_1413 (by decide) ?_
  refine lv_iadd hx hb dL_law_1414 ?_
  refine oh_nrm (v := 4) (by decide) ?_
  refine va_sld hx hb hX hbl hbA hS (show vp_in 4 8 by unfold vp_in; decide) dL_law_1415 ?_
  refine oh_nrm (v := xs 4) rfl ?_
  refine lv_aload_n hx hb dL_law_1416 rfl (lv_at hl 3 rfl) ?_
  refine lv_iload_n hx hb dL_law_1417 rfl (lv_at hl 0 rfl) ?_
  refine lv_iconst (v := 5) hx hb dL_law_1418 (by decide) ?_
  refine lv_iadd hx hb dL_law_1419 ?_
  refine oh_nrm (v := 5) (by decide) ?_
  refine va_sld hx hb hX hbl hbA hS (show vp_in 5 8 by unfold vp_in; decide) dL_law_1420 ?_
  refine oh_nrm (v := xs 5) rfl ?_
  refine oh_lV (wx := lw_x E xa) (wm := lw_m E ma r1 r2 r3 r4 r5) (As := [.int (xs 1), .int (xs 2), .int (xs 3), .int (xs 4), .int (xs 5)]) (rest := []) ⟨hx, hb, hml, hown, htg⟩ (c_X6_again l D E G H.size (xa 0) (xs 1) (xs 2) (xs 3) (xs 4) (xs 5) (xa 1) (xa 9) (xa 17) (xa 24) (xa 28) (xa 30) (xa 33) (xa 34) (xa 2) (xa 3) (xa 4) (xa 5) (xa 6) (xa 7) (xa 8)) (cwV 5 htg (oh_gV q_813 q_814 q_815 q_66 q_816) rfl rfl rfl pdVX6_again ⟨Nat.le_of_ble_eq_true rfl, Nat.le_of_ble_eq_true rfl⟩) hK hP hD hG hS hA [0, 1, 2, 33] rfl (by decide) (show ∀ i ∈ ([0, 1, 2, 33] : List Nat), i < 35 by decide) (va_recv hK hP (ci := 6) (q0 := 0) rfl rfl) rfl hl.1 rfl (Nat.le_of_ble_eq_true rfl) dL_law_1421 ⟨(show 109 ≤ 600000 from Nat.le_of_ble_eq_true rfl), (show 2593 ≤ 7302250 from Nat.le_of_ble_eq_true rfl)⟩ (fun r_1 u H locs hw hP hD hS => ?_)
  subst hw
  refine W.widen (k := 109) (n := 2593) (Nat.le_refl _) (Nat.le_refl _) ?_
  refine lv_aload_n hx hb dL_law_1424 rfl (lv_at hl 1 rfl) ?_
  refine lv_aload_n hx hb dL_law_1425 rfl (lv_at hl 3 rfl) ?_
  refine lv_iload_n hx hb dL_law_1426 rfl (lv_at hl 0 rfl) ?_
  refine lv_iconst (v := 1) hx hb dL_law_1427 (by decide) ?_
  refine lv_iadd hx hb dL_law_1428 ?_
  refine oh_nrm (v := 1) (by decide) ?_
  refine va_sld hx hb hX hbl hbA hS (show vp_in 1 8 by unfold vp_in; decide) dL_law_1429 ?_
  refine oh_nrm (v := xs 1) rfl ?_
  refine lv_aload_n hx hb dL_law_1430 rfl (lv_at hl 3 rfl) ?_
  refine lv_iload_n hx hb dL_law_1431 rfl (lv_at hl 0 rfl) ?_
  refine lv_iconst (v := 2) hx hb dL_law_1432 (by decide) ?_
  refine lv_iadd hx hb dL_law_1433 ?_
  refine oh_nrm (v := 2) (by decide) ?_
  refine va_sld hx hb hX hbl hbA hS (show vp_in 2 8 by unfold vp_in; decide) dL_law_1434 ?_
  refine oh_nrm (v := xs 2) rfl ?_
  refine lv_aload_n hx hb dL_law_1435 rfl (lv_at hl 3 rfl) ?_
  refine lv_iload_n hx hb dL_law_1436 rfl (lv_at hl 0 rfl) ?_
  refine lv_iconst (v := 3) hx hb dL_law_1437 (by decide) ?_
  refine lv_iadd hx hb dL_law_1438 ?_
  refine oh_nrm (v := 3) (by decide) ?_
  refine va_sld hx hb hX hbl hbA hS (show vp_in 3 8 by unfold vp_in; decide) dL_law_1439 ?_
  refine oh_nrm (v := xs 3) rfl ?_
  refine lv_aload_n hx hb dL_law_1440 rfl (lv_at hl 3 rfl) ?_
  refine lv_iload_n hx hb dL_law_1441 rfl (lv_at hl 0 rfl) ?_
  refine lv_iconst (v := 4) hx hb dL_law_1442 (by decide) ?_
  refine lv_iadd hx hb dL_law_1443 ?_
  refine oh_nrm (v := 4) (by decide) ?_
  refine va_sld hx hb hX hbl hbA hS (show vp_in 4 8 by unfold vp_in; decide) dL_law_1444 ?_
  refine oh_nrm (v := xs 4) rfl ?_
  refine lv_aload_n hx hb dL_law_1445 rfl (lv_at hl 3 rfl) ?_
  refine lv_iload_n hx hb dL_law_1446 rfl (lv_at hl 0 rfl) ?_
  refine lv_iconst (v := 5) hx hb dL_law_1447 (by decide) ?_
  refine lv_iadd hx hb dL_law_1448 ?_
  refine oh_nrm (v := 5) (by decide) ?_
  refine va_sld hx hb hX hbl hbA hS (show vp_in 5 8 by unfold vp_in; decide) dL_law_1449 ?_
  refine oh_nrm (v := xs 5) rfl ?_
  refine oh_mV (wr := []) (As := [.int (xs 1), .int (xs 2), .int (xs 3), .int (xs 4), .int (xs 5)]) (rest := [.int (-2)]) ⟨hx, hb, hml, hown, htg⟩ (c_X7_again l D E G H.size (ma 0) (xs 1) (xs 2) (xs 3) (xs 4) (xs 5) (ma 1) (ma 2) (ma 3) (ma 4) (ma 5) (ma 6) (ma 7) (ma 8) (ma 9) (ma 10) (ma 11) (ma 12) (ma 13) (ma 14) (ma 15)) (cwV 5 htg (oh_gV q_1364 q_1343 q_1344 q_73 q_1345) rfl rfl rfl pdVX7_again ⟨Nat.le_of_ble_eq_true rfl, Nat.le_of_ble_eq_true rfl⟩) hK hP hD hG hS hA [0, 8] [] rfl rfl (by decide) (by decide) (by decide) (va_recv hK hP (ci := 7) (q0 := 0) rfl rfl) rfl hl.1 rfl (Nat.le_of_ble_eq_true rfl) dL_law_1450 ⟨(show 109 ≤ 600000 from Nat.le_of_ble_eq_true rfl), (show 2593 ≤ 7302250 from Nat.le_of_ble_eq_true rfl)⟩ (fun r_2 u H locs hw hP hD hS => ?_)
  subst hw
  refine W.widen (k := 109) (n := 2593) (Nat.le_refl _) (Nat.le_refl _) ?_
  refine lv_icmp_eq (tgt := 2047) hx hb dL_law_1453 (by decide) (fun _ => ?_) (fun c => absurd (show (-2 : Int32) = (-2) from by decide) c)
  exact lw_end C0 hAe hS (lv_sub hl [0, 3] rfl) (show 109 ≤ 600000 from Nat.le_of_ble_eq_true rfl) (show 2593 ≤ 7302250 from Nat.le_of_ble_eq_true rfl)
set_option maxHeartbeats 4000000 in
set_option maxRecDepth 100000 in
/-- the law at one call of best -/
theorem lc_best {p : Program} {e : Env} {s : State} {m : MethodId} {below : List Frame} {meth : Method} {c : Code} (l : Launch) {b : Nat} {xs : Nat → Int32} (C0 : lw_At p s m meth c b 8 xs) {D : va_G} {E : Nat → ClassId} {G : Nat → Nat} {A : Nat → Prop} (hAe : A = fun q => s.heap.size ≤ q) (hK : va_K D vwCl (oh_ty E) s) (hG : oh_G G A s) {xa ma r1 r2 r3 r4 r5 : Nat → Nat} {H : Heap} {locs : List Loc} (hP : va_P D vwCl (lw_x E xa ++ lw_m E ma r1 r2 r3 r4 r5) H) (hD : va_D A (lw_x E xa ++ lw_m E ma r1 r2 r3 r4 r5)) (hS : va_S A s.heap H locs) {ls : Array Slot} (hl : lv_has ls 4 [(3, .int 0), (2, .ref (ma 0)), (1, .ref (xa 0)), (0, .ref b)]) : W p l e room_1 s m #[Value.ref b] below meth c H locs 109 2593 (lw_Z below #[Value.ref b] s) (F0 m 1458 ls []) := by
  obtain ⟨hx, hb, hr, hml, hown, hts, hX, hbl, hlocks, hgv⟩ := id C0
  have hown : s.vm.findClass RL = some m.cls := hown
  have htg : ∀ w ∈ oh_t, w.before _ s = true := fun w h => hts w (List.mem_filter.mp h).1
  have hA : ∀ q, s.heap.size ≤ q → A q := fun q h => by rw [hAe]; exact h
  have hbA : ¬ A b := by rw [hAe]; exact Nat.not_le.mpr hbl
  refine lv_aload_n hx hb dL_law_1458 rfl (lv_at hl 2 rfl) ?_
  refine lv_aload_n hx hb dL_law_1459 rfl (lv_at hl 3 rfl) ?_
  refine lv_iload_n hx hb dL_law_1460 rfl (lv_at hl 0 rfl) ?_
  refine lv_iconst (v := 1) hx hb dL_law_1461 (by decide) ?_
  refine lv_iadd hx hb dL_law_1462 ?_
  refine oh_nrm (v := 1) (by decide) ?_
  refine va_sld hx hb hX hbl hbA hS (show vp_in 1 8 by unfold vp_in; decide) dL_law_1463 ?_
  refine oh_nrm (v := xs 1) rfl ?_
  refine lv_aload_n hx hb dL_law_1464 rfl (lv_at hl 3 rfl) ?_
  refine lv_iload_n hx hb dL_law_1465 rfl (lv_at hl 0 rfl) ?_
  refine lv_iconst (v := 2) hx hb dL_law_1466 (by decide) ?_
  refine lv_iadd hx hb dL_law_1467 ?_
  refine oh_nrm (v := 2) (by decide) ?_
  refine va_sld hx hb hX hbl hbA hS (show vp_in 2 8 by unfold vp_in; decide) dL_law_1468 ?_
  refine oh_nrm (v := xs 2) rfl ?_
  refine lv_aload_n hx hb dL_law_1469 rfl (lv_at hl 3 rfl) ?_
  refine lv_iload_n hx hb dL_law_1470 rfl (lv_at hl 0 rfl) ?_
  refine lv_iconst (v := 3) hx hb dL_law_1471 (by decide) ?_
  refine lv_iadd hx hb dL_law_1472 ?_
  refine oh_nrm (v := 3) (by decide) ?_
  refine va_sld hx hb hX hbl hbA hS (show vp_in 3 8 by unfold vp_in; decide) dL_law_1473 ?_
  refine oh_nrm (v := xs 3) rfl ?_
  refine oh_lV (wx := lw_x E xa) (wm := lw_m E ma r1 r2 r3 r4 r5) (As := [.int (xs 1), .int (xs 2), .int (xs 3)]) (rest := []) ⟨hx, hb, hml, hown, htg⟩ (c_X6_best l D E G H.size (xa 0) (xs 1) (xs 2) (xs 3) (xa 1) (xa 9) (xa 17) (xa 24) (xa 28) (xa 30) (xa 33) (xa 34) (xa 2) (xa 3) (xa 4) (xa 5) (xa 6) (xa 7) (xa 8)) (cwV 3 htg (oh_gV q_817 q_818 q_819 q_66 q_820) rfl rfl rfl pdVX6_best ⟨Nat.le_of_ble_eq_true rfl, Nat.le_of_ble_eq_true rfl⟩) hK hP hD hG hS hA [0, 1, 2, 34, 33] rfl (by decide) (show ∀ i ∈ ([0, 1, 2, 34, 33] : List Nat), i < 35 by decide) (va_recv hK hP (ci := 6) (q0 := 0) rfl rfl) rfl hl.1 rfl (Nat.le_of_ble_eq_true rfl) dL_law_1474 ⟨(show 109 ≤ 600000 from Nat.le_of_ble_eq_true rfl), (show 2593 ≤ 7302250 from Nat.le_of_ble_eq_true rfl)⟩ (fun r_1 u H locs hw hP hD hS => ?_)
  subst hw
  refine W.widen (k := 109) (n := 2593) (Nat.le_refl _) (Nat.le_refl _) ?_
  refine lv_aload_n hx hb dL_law_1477 rfl (lv_at hl 1 rfl) ?_
  refine lv_aload_n hx hb dL_law_1478 rfl (lv_at hl 3 rfl) ?_
  refine lv_iload_n hx hb dL_law_1479 rfl (lv_at hl 0 rfl) ?_
  refine lv_iconst (v := 1) hx hb dL_law_1480 (by decide) ?_
  refine lv_iadd hx hb dL_law_1481 ?_
  refine oh_nrm (v := 1) (by decide) ?_
  refine va_sld hx hb hX hbl hbA hS (show vp_in 1 8 by unfold vp_in; decide) dL_law_1482 ?_
  refine oh_nrm (v := xs 1) rfl ?_
  refine lv_aload_n hx hb dL_law_1483 rfl (lv_at hl 3 rfl) ?_
  refine lv_iload_n hx hb dL_law_1484 rfl (lv_at hl 0 rfl) ?_
  refine lv_iconst (v := 2) hx hb dL_law_1485 (by decide) ?_
  refine lv_iadd hx hb dL_law_1486 ?_
  refine oh_nrm (v := 2) (by decide) ?_
  refine va_sld hx hb hX hbl hbA hS (show vp_in 2 8 by unfold vp_in; decide) dL_law_1487 ?_
  refine oh_nrm (v := xs 2) rfl ?_
  refine lv_aload_n hx hb dL_law_1488 rfl (lv_at hl 3 rfl) ?_
  refine lv_iload_n hx hb dL_law_1489 rfl (lv_at hl 0 rfl) ?_
  refine lv_iconst (v := 3) hx hb dL_law_1490 (by decide) ?_
  refine lv_iadd hx hb dL_law_1491 ?_
  refine oh_nrm (v := 3) (by decide) ?_
  refine va_sld hx hb hX hbl hbA hS (show vp_in 3 8 by unfold vp_in; decide) dL_law_1492 ?_
  refine oh_nrm (v := xs 3) rfl ?_
  refine oh_mV (wr := []) (As := [.int (xs 1), .int (xs 2), .int (xs 3)]) (rest := [.int (fX6_best (xs 1) (xs 2) (xs 3))]) ⟨hx, hb, hml, hown, htg⟩ (c_X7_best l D E G H.size (ma 0) (xs 1) (xs 2) (xs 3) (ma 1) (ma 2) (ma 3) (ma 4) (ma 5) (ma 6) (ma 7) (ma 8) (ma 9) (ma 10) (ma 11) (ma 12) (ma 13) (ma 14) (ma 15)) (cwV 3 htg (oh_gV q_1365 q_1366 q_1367 q_73 q_1368) rfl rfl rfl pdVX7_best ⟨Nat.le_of_ble_eq_true rfl, Nat.le_of_ble_eq_true rfl⟩) hK hP hD hG hS hA [0, 8] [] rfl rfl (by decide) (by decide) (by decide) (va_recv hK hP (ci := 7) (q0 := 0) rfl rfl) rfl hl.1 rfl (Nat.le_of_ble_eq_true rfl) dL_law_1493 ⟨(show 109 ≤ 600000 from Nat.le_of_ble_eq_true rfl), (show 2593 ≤ 7302250 from Nat.le_of_ble_eq_true rfl)⟩ (fun r_2 u H locs hw hP hD hS => ?_)
  subst hw
  refine W.widen (k := 109) (n := 2593) (Nat.le_refl _) (Nat.le_refl _) ?_
  refine lv_icmp_eq (tgt := 2047) hx hb dL_law_1496 (by decide) (fun _ => ?_) (fun c => absurd (show (fX6_best (xs 1) (xs 2) (xs 3)) = (fX7_best (xs 1) (xs 2) (xs 3)) from eq_best (xs 1) (xs 2) (xs 3)) c)
  exact lw_end C0 hAe hS (lv_sub hl [0, 3] rfl) (show 109 ≤ 600000 from Nat.le_of_ble_eq_true rfl) (show 2593 ≤ 7302250 from Nat.le_of_ble_eq_true rfl)
set_option maxHeartbeats 4000000 in
set_option maxRecDepth 100000 in
/-- the law at one call of judge -/
theorem lc_judge {p : Program} {e : Env} {s : State} {m : MethodId} {below : List Frame} {meth : Method} {c : Code} (l : Launch) {b : Nat} {xs : Nat → Int32} (C0 : lw_At p s m meth c b 8 xs) {D : va_G} {E : Nat → ClassId} {G : Nat → Nat} {A : Nat → Prop} (hAe : A = fun q => s.heap.size ≤ q) (hK : va_K D vwCl (oh_ty E) s) (hG : oh_G G A s) {xa ma r1 r2 r3 r4 r5 : Nat → Nat} {H : Heap} {locs : List Loc} (hP : va_P D vwCl (lw_x E xa ++ lw_m E ma r1 r2 r3 r4 r5) H) (hD : va_D A (lw_x E xa ++ lw_m E ma r1 r2 r3 r4 r5)) (hS : va_S A s.heap H locs) {ls : Array Slot} (hl : lv_has ls 4 [(3, .int 0), (2, .ref (ma 0)), (1, .ref (xa 0)), (0, .ref b)]) : W p l e room_1 s m #[Value.ref b] below meth c H locs 109 2593 (lw_Z below #[Value.ref b] s) (F0 m 1501 ls []) := by
  obtain ⟨hx, hb, hr, hml, hown, hts, hX, hbl, hlocks, hgv⟩ := id C0
  have hown : s.vm.findClass RL = some m.cls := hown
  have htg : ∀ w ∈ oh_t, w.before _ s = true := fun w h => hts w (List.mem_filter.mp h).1
  have hA : ∀ q, s.heap.size ≤ q → A q := fun q h => by rw [hAe]; exact h
  have hbA : ¬ A b := by rw [hAe]; exact Nat.not_le.mpr hbl
  refine lv_aload_n hx hb dL_law_1501 rfl (lv_at hl 2 rfl) ?_
  refine lv_aload_n hx hb dL_law_1502 rfl (lv_at hl 3 rfl) ?_
  refine lv_iload_n hx hb dL_law_1503 rfl (lv_at hl 0 rfl) ?_
  refine lv_iconst (v := 1) hx hb dL_law_1504 (by decide) ?_
  refine lv_iadd hx hb dL_law_1505 ?_
  refine oh_nrm (v := 1) (by decide) ?_
  refine va_sld hx hb hX hbl hbA hS (show vp_in 1 8 by unfold vp_in; decide) dL_law_1506 ?_
  refine oh_nrm (v := xs 1) rfl ?_
  refine lv_aload_n hx hb dL_law_1507 rfl (lv_at hl 3 rfl) ?_
  refine lv_iload_n hx hb dL_law_1508 rfl (lv_at hl 0 rfl) ?_
  refine lv_iconst (v := 2) hx hb dL_law_1509 (by decide) ?_
  refine lv_iadd hx hb dL_law_1510 ?_
  refine oh_nrm (v := 2) (by decide) ?_
  refine va_sld hx hb hX hbl hbA hS (show vp_in 2 8 by unfold vp_in; decide) dL_law_1511 ?_
  refine oh_nrm (v := xs 2) rfl ?_
  refine lv_aload_n hx hb dL_law_1512 rfl (lv_at hl 3 rfl) ?_
  refine lv_iload_n hx hb dL_law_1513 rfl (lv_at hl 0 rfl) ?_
  refine lv_iconst (v := 3) hx hb dL_law_1514 (by decide) ?_
  refine lv_iadd hx hb dL_law_1515 ?_
  refine oh_nrm (v := 3) (by decide) ?_
  refine va_sld hx hb hX hbl hbA hS (show vp_in 3 8 by unfold vp_in; decide) dL_law_1516 ?_
  refine oh_nrm (v := xs 3) rfl ?_
  refine lv_aload_n hx hb dL_law_1517 rfl (lv_at hl 3 rfl) ?_
  refine lv_iload_n hx hb dL_law_1518 rfl (lv_at hl 0 rfl) ?_
  refine lv_iconst (v := 4) hx hb dL_law_1519 (by decide) ?_
  refine lv_iadd hx hb dL_law_1520 ?_
  refine oh_nrm (v := 4) (by decide) ?_
  refine va_sld hx hb hX hbl hbA hS (show vp_in 4 8 by unfold vp_in; decide) dL_law_1521 ?_
  refine oh_nrm (v := xs 4) rfl ?_
  refine lv_aload_n hx hb dL_law_1522 rfl (lv_at hl 3 rfl) ?_
  refine lv_iload_n hx hb dL_law_1523 rfl (lv_at hl 0 rfl) ?_
  refine lv_iconst (v := 5) hx hb dL_law_1524 (by decide) ?_
  refine lv_iadd hx hb dL_law_1525 ?_
  refine oh_nrm (v := 5) (by decide) ?_
  refine va_sld hx hb hX hbl hbA hS (show vp_in 5 8 by unfold vp_in; decide) dL_law_1526 ?_
  refine oh_nrm (v := xs 5) rfl ?_
  refine oh_lV (wx := lw_x E xa) (wm := lw_m E ma r1 r2 r3 r4 r5) (As := [.int (xs 1), .int (xs 2), .int (xs 3), .int (xs 4), .int (xs 5)]) (rest := []) ⟨hx, hb, hml, hown, htg⟩ (c_X6_judge l D E G H.size (xa 0) (xs 1) (xs 2) (xs 3) (xs 4) (xs 5) (xa 1) (xa 9) (xa 17) (xa 24) (xa 28) (xa 30) (xa 33) (xa 34) (xa 2) (xa 3) (xa 4) (xa 5) (xa 6) (xa 7) (xa 8)) (cwV 5 htg (oh_gV q_826 q_827 q_828 q_66 q_829) rfl rfl rfl pdVX6_judge ⟨Nat.le_of_ble_eq_true rfl, Nat.le_of_ble_eq_true rfl⟩) hK hP hD hG hS hA [0, 1, 2, 33] rfl (by decide) (show ∀ i ∈ ([0, 1, 2, 33] : List Nat), i < 35 by decide) (va_recv hK hP (ci := 6) (q0 := 0) rfl rfl) rfl hl.1 rfl (Nat.le_of_ble_eq_true rfl) dL_law_1527 ⟨(show 109 ≤ 600000 from Nat.le_of_ble_eq_true rfl), (show 2593 ≤ 7302250 from Nat.le_of_ble_eq_true rfl)⟩ (fun r_1 u H locs hw hP hD hS => ?_)
  subst hw
  refine W.widen (k := 109) (n := 2593) (Nat.le_refl _) (Nat.le_refl _) ?_
  refine lv_aload_n hx hb dL_law_1530 rfl (lv_at hl 1 rfl) ?_
  refine lv_aload_n hx hb dL_law_1531 rfl (lv_at hl 3 rfl) ?_
  refine lv_iload_n hx hb dL_law_1532 rfl (lv_at hl 0 rfl) ?_
  refine lv_iconst (v := 1) hx hb dL_law_1533 (by decide) ?_
  refine lv_iadd hx hb dL_law_1534 ?_
  refine oh_nrm (v := 1) (by decide) ?_
  refine va_sld hx hb hX hbl hbA hS (show vp_in 1 8 by unfold vp_in; decide) dL_law_1535 ?_
  refine oh_nrm (v := xs 1) rfl ?_
  refine lv_aload_n hx hb dL_law_1536 rfl (lv_at hl 3 rfl) ?_
  refine lv_iload_n hx hb dL_law_1537 rfl (lv_at hl 0 rfl) ?_
  refine lv_iconst (v := 2) hx hb dL_law_1538 (by decide) ?_
  refine lv_iadd hx hb dL_law_1539 ?_
  refine oh_nrm (v := 2) (by decide) ?_
  refine va_sld hx hb hX hbl hbA hS (show vp_in 2 8 by unfold vp_in; decide) dL_law_1540 ?_
  refine oh_nrm (v := xs 2) rfl ?_
  refine lv_aload_n hx hb dL_law_1541 rfl (lv_at hl 3 rfl) ?_
  refine lv_iload_n hx hb dL_law_1542 rfl (lv_at hl 0 rfl) ?_
  refine lv_iconst (v := 3) hx hb dL_law_1543 (by decide) ?_
  refine lv_iadd hx hb dL_law_1544 ?_
  refine oh_nrm (v := 3) (by decide) ?_
  refine va_sld hx hb hX hbl hbA hS (show vp_in 3 8 by unfold vp_in; decide) dL_law_1545 ?_
  refine oh_nrm (v := xs 3) rfl ?_
  refine lv_aload_n hx hb dL_law_1546 rfl (lv_at hl 3 rfl) ?_
  refine lv_iload_n hx hb dL_law_1547 rfl (lv_at hl 0 rfl) ?_
  refine lv_iconst (v := 4) hx hb dL_law_1548 (by decide) ?_
  refine lv_iadd hx hb dL_law_1549 ?_
  refine oh_nrm (v := 4) (by decide) ?_
  refine va_sld hx hb hX hbl hbA hS (show vp_in 4 8 by unfold vp_in; decide) dL_law_1550 ?_
  refine oh_nrm (v := xs 4) rfl ?_
  refine lv_aload_n hx hb dL_law_1551 rfl (lv_at hl 3 rfl) ?_
  refine lv_iload_n hx hb dL_law_1552 rfl (lv_at hl 0 rfl) ?_
  refine lv_iconst (v := 5) hx hb dL_law_1553 (by decide) ?_
  refine lv_iadd hx hb dL_law_1554 ?_
  refine oh_nrm (v := 5) (by decide) ?_
  refine va_sld hx hb hX hbl hbA hS (show vp_in 5 8 by unfold vp_in; decide) dL_law_1555 ?_
  refine oh_nrm (v := xs 5) rfl ?_
  refine oh_mV (wr := []) (As := [.int (xs 1), .int (xs 2), .int (xs 3), .int (xs 4), .int (xs 5)]) (rest := [.int (-2)]) ⟨hx, hb, hml, hown, htg⟩ (c_X7_judge l D E G H.size (ma 0) (xs 1) (xs 2) (xs 3) (xs 4) (xs 5) (ma 1) (ma 2) (ma 3) (ma 4) (ma 5) (ma 6) (ma 7) (ma 8) (ma 9) (ma 10) (ma 11) (ma 12) (ma 13) (ma 14) (ma 15)) (cwV 5 htg (oh_gV q_1369 q_1370 q_1371 q_73 q_1372) rfl rfl rfl pdVX7_judge ⟨Nat.le_of_ble_eq_true rfl, Nat.le_of_ble_eq_true rfl⟩) hK hP hD hG hS hA [0, 8] [] rfl rfl (by decide) (by decide) (by decide) (va_recv hK hP (ci := 7) (q0 := 0) rfl rfl) rfl hl.1 rfl (Nat.le_of_ble_eq_true rfl) dL_law_1556 ⟨(show 109 ≤ 600000 from Nat.le_of_ble_eq_true rfl), (show 2593 ≤ 7302250 from Nat.le_of_ble_eq_true rfl)⟩ (fun r_2 u H locs hw hP hD hS => ?_)
  subst hw
  refine W.widen (k := 109) (n := 2593) (Nat.le_refl _) (Nat.le_refl _) ?_
  refine lv_icmp_eq (tgt := 2047) hx hb dL_law_1559 (by decide) (fun _ => ?_) (fun c => absurd (show (-2 : Int32) = (-2) from by decide) c)
  exact lw_end C0 hAe hS (lv_sub hl [0, 3] rfl) (show 109 ≤ 600000 from Nat.le_of_ble_eq_true rfl) (show 2593 ≤ 7302250 from Nat.le_of_ble_eq_true rfl)
