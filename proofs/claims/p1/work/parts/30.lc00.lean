set_option maxHeartbeats 4000000 in
set_option maxRecDepth 100000 in
/-- the law at one call of row -/
theorem lc_row {p : Program} {e : Env} {s : State} {m : MethodId} {below : List Frame} {meth : Method} {c : Code} (l : Launch) {b : Nat} {xs : Nat → Int32} (C0 : lw_At p s m meth c b 8 xs) {D : va_G} {E : Nat → ClassId} {G : Nat → Nat} {A : Nat → Prop} (hAe : A = fun q => s.heap.size ≤ q) (hK : va_K D vwCl (oh_ty E) s) (hG : oh_G G A s) {xa ma r1 r2 r3 r4 r5 : Nat → Nat} {H : Heap} {locs : List Loc} (hP : va_P D vwCl (lw_x E xa ++ lw_m E ma r1 r2 r3 r4 r5) H) (hD : va_D A (lw_x E xa ++ lw_m E ma r1 r2 r3 r4 r5)) (hS : va_S A s.heap H locs) {ls : Array Slot} (hl : lv_has ls 4 [(3, .int 0), (2, .ref (ma 0)), (1, .ref (xa 0)), (0, .ref b)]) : W p l e room_1 s m #[Value.ref b] below meth c H locs 109 2593 (lw_Z below #[Value.ref b] s) (F0 m 220 ls []) := by
  obtain ⟨hx, hb, hr, hml, hown, hts, hX, hbl, hlocks, hgv⟩ := id C0
  have hown : s.vm.findClass RL = some m.cls := hown
  have htg : ∀ w ∈ oh_t, w.before _ s = true := fun w h => hts w (List.mem_filter.mp h).1
  have hA : ∀ q, s.heap.size ≤ q → A q := fun q h => by rw [hAe]; exact h
  have hbA : ¬ A b := by rw [hAe]; exact Nat.not_le.mpr hbl
  refine lv_aload_n hx hb dL_law_220 rfl (lv_at hl 2 rfl) ?_
  refine lv_aload_n hx hb dL_law_221 rfl (lv_at hl 3 rfl) ?_
  refine lv_iload_n hx hb dL_law_222 rfl (lv_at hl 0 rfl) ?_
  refine lv_iconst (v := 1) hx hb dL_law_223 (by decide) ?_
  refine lv_iadd hx hb dL_law_224 ?_
  refine oh_nrm (v := 1) (by decide) ?_
  refine va_sld hx hb hX hbl hbA hS (show vp_in 1 8 by unfold vp_in; decide) dL_law_225 ?_
  refine oh_nrm (v := xs 1) rfl ?_
  refine lv_aload_n hx hb dL_law_226 rfl (lv_at hl 3 rfl) ?_
  refine lv_iload_n hx hb dL_law_227 rfl (lv_at hl 0 rfl) ?_
  refine lv_iconst (v := 2) hx hb dL_law_228 (by decide) ?_
  refine lv_iadd hx hb dL_law_229 ?_
  refine oh_nrm (v := 2) (by decide) ?_
  refine va_sld hx hb hX hbl hbA hS (show vp_in 2 8 by unfold vp_in; decide) dL_law_230 ?_
  refine oh_nrm (v := xs 2) rfl ?_
  refine lv_aload_n hx hb dL_law_231 rfl (lv_at hl 3 rfl) ?_
  refine lv_iload_n hx hb dL_law_232 rfl (lv_at hl 0 rfl) ?_
  refine lv_iconst (v := 3) hx hb dL_law_233 (by decide) ?_
  refine lv_iadd hx hb dL_law_234 ?_
  refine oh_nrm (v := 3) (by decide) ?_
  refine va_sld hx hb hX hbl hbA hS (show vp_in 3 8 by unfold vp_in; decide) dL_law_235 ?_
  refine oh_nrm (v := xs 3) rfl ?_
  refine oh_lV (wx := lw_x E xa) (wm := lw_m E ma r1 r2 r3 r4 r5) (As := [.int (xs 1), .int (xs 2), .int (xs 3)]) (rest := []) ⟨hx, hb, hml, hown, htg⟩ (c_X6_row l D E G H.size (xa 0) (xs 1) (xs 2) (xs 3) (xa 1) (xa 9) (xa 17) (xa 24) (xa 28) (xa 30) (xa 33) (xa 34) (xa 25) (xa 26) (xa 27)) (cwV 3 htg (oh_gV q_286 q_287 q_288 q_66 q_289) rfl rfl rfl pdVX6_row ⟨Nat.le_of_ble_eq_true rfl, Nat.le_of_ble_eq_true rfl⟩) hK hP hD hG hS hA [0, 24, 25, 26, 27, 33] rfl (by decide) (show ∀ i ∈ ([0, 24, 25, 26, 27, 33] : List Nat), i < 35 by decide) (va_recv hK hP (ci := 6) (q0 := 0) rfl rfl) rfl hl.1 rfl (Nat.le_of_ble_eq_true rfl) dL_law_236 ⟨(show 109 ≤ 600000 from Nat.le_of_ble_eq_true rfl), (show 2593 ≤ 7302250 from Nat.le_of_ble_eq_true rfl)⟩ (fun r_1 u H locs hw hP hD hS => ?_)
  subst hw
  refine W.widen (k := 109) (n := 2593) (Nat.le_refl _) (Nat.le_refl _) ?_
  refine lv_aload_n hx hb dL_law_239 rfl (lv_at hl 1 rfl) ?_
  refine lv_aload_n hx hb dL_law_240 rfl (lv_at hl 3 rfl) ?_
  refine lv_iload_n hx hb dL_law_241 rfl (lv_at hl 0 rfl) ?_
  refine lv_iconst (v := 1) hx hb dL_law_242 (by decide) ?_
  refine lv_iadd hx hb dL_law_243 ?_
  refine oh_nrm (v := 1) (by decide) ?_
  refine va_sld hx hb hX hbl hbA hS (show vp_in 1 8 by unfold vp_in; decide) dL_law_244 ?_
  refine oh_nrm (v := xs 1) rfl ?_
  refine lv_aload_n hx hb dL_law_245 rfl (lv_at hl 3 rfl) ?_
  refine lv_iload_n hx hb dL_law_246 rfl (lv_at hl 0 rfl) ?_
  refine lv_iconst (v := 2) hx hb dL_law_247 (by decide) ?_
  refine lv_iadd hx hb dL_law_248 ?_
  refine oh_nrm (v := 2) (by decide) ?_
  refine va_sld hx hb hX hbl hbA hS (show vp_in 2 8 by unfold vp_in; decide) dL_law_249 ?_
  refine oh_nrm (v := xs 2) rfl ?_
  refine lv_aload_n hx hb dL_law_250 rfl (lv_at hl 3 rfl) ?_
  refine lv_iload_n hx hb dL_law_251 rfl (lv_at hl 0 rfl) ?_
  refine lv_iconst (v := 3) hx hb dL_law_252 (by decide) ?_
  refine lv_iadd hx hb dL_law_253 ?_
  refine oh_nrm (v := 3) (by decide) ?_
  refine va_sld hx hb hX hbl hbA hS (show vp_in 3 8 by unfold vp_in; decide) dL_law_254 ?_
  refine oh_nrm (v := xs 3) rfl ?_
  by_cases h9 : vp_in (xs 1) 8
  · obtain ⟨S, hS8, eS⟩ := vp_in_of h9 (by decide)
    rcases (show S = 0 ∨ S = 1 ∨ S = 2 ∨ S = 3 ∨ S = 4 ∨ S = 5 ∨ S = 6 ∨ S = 7 by omega) with rfl | rfl | rfl | rfl | rfl | rfl | rfl | rfl
    · refine oh_mV (wr := []) (As := [.int (xs 1), .int (xs 2), .int (xs 3)]) (rest := [.int (fX6_row (xs 1) (xs 2) (xs 3))]) ⟨hx, hb, hml, hown, htg⟩ (c_X7_row l D E G H.size (ma 0) (xs 1) (xs 2) (xs 3) (ma 1) (ma 2) (ma 3) (ma 4) (ma 5) (ma 6) (ma 7) (ma 8) (ma 9) (ma 10) (ma 11) (ma 12) (ma 13) (ma 14) (ma 15) (fun i => if i < 8 then some (r1 i) else none) (r1 0) (fun _ => by rw [eS]; rfl)) (cwV 3 htg (oh_gV q_1061 q_1062 q_1063 q_73 q_1064) rfl rfl rfl pdVX7_row ⟨Nat.le_of_ble_eq_true rfl, Nat.le_of_ble_eq_true rfl⟩) hK hP hD hG hS hA [0, 1, 2, 3, 4, 16, 8] [] rfl rfl (by decide) (by decide) (by decide) (va_recv hK hP (ci := 7) (q0 := 0) rfl rfl) rfl hl.1 rfl (Nat.le_of_ble_eq_true rfl) dL_law_255 ⟨(show 109 ≤ 600000 from Nat.le_of_ble_eq_true rfl), (show 2593 ≤ 7302250 from Nat.le_of_ble_eq_true rfl)⟩ (fun r_2 u H locs hw hP hD hS => ?_)
      subst hw
      refine W.widen (k := 109) (n := 2593) (Nat.le_refl _) (Nat.le_refl _) ?_
      refine lv_icmp_eq (tgt := 2047) hx hb dL_law_258 (by decide) (fun _ => ?_) (fun c => absurd (show (fX6_row (xs 1) (xs 2) (xs 3)) = (fX7_row (xs 1) (xs 2) (xs 3)) from eq_row (xs 1) (xs 2) (xs 3)) c)
      exact lw_end C0 hAe hS (lv_sub hl [0, 3] rfl) (show 109 ≤ 600000 from Nat.le_of_ble_eq_true rfl) (show 2593 ≤ 7302250 from Nat.le_of_ble_eq_true rfl)
    · refine oh_mV (wr := []) (As := [.int (xs 1), .int (xs 2), .int (xs 3)]) (rest := [.int (fX6_row (xs 1) (xs 2) (xs 3))]) ⟨hx, hb, hml, hown, htg⟩ (c_X7_row l D E G H.size (ma 0) (xs 1) (xs 2) (xs 3) (ma 1) (ma 2) (ma 3) (ma 4) (ma 5) (ma 6) (ma 7) (ma 8) (ma 9) (ma 10) (ma 11) (ma 12) (ma 13) (ma 14) (ma 15) (fun i => if i < 8 then some (r1 i) else none) (r1 1) (fun _ => by rw [eS]; rfl)) (cwV 3 htg (oh_gV q_1061 q_1062 q_1063 q_73 q_1064) rfl rfl rfl pdVX7_row ⟨Nat.le_of_ble_eq_true rfl, Nat.le_of_ble_eq_true rfl⟩) hK hP hD hG hS hA [0, 1, 2, 3, 4, 17, 8] [] rfl rfl (by decide) (by decide) (by decide) (va_recv hK hP (ci := 7) (q0 := 0) rfl rfl) rfl hl.1 rfl (Nat.le_of_ble_eq_true rfl) dL_law_255 ⟨(show 109 ≤ 600000 from Nat.le_of_ble_eq_true rfl), (show 2593 ≤ 7302250 from Nat.le_of_ble_eq_true rfl)⟩ (fun r_3 u H locs hw hP hD hS => ?_)
      subst hw
      refine W.widen (k := 109) (n := 2593) (Nat.le_refl _) (Nat.le_refl _) ?_
      refine lv_icmp_eq (tgt := 2047) hx hb dL_law_258 (by decide) (fun _ => ?_) (fun c => absurd (show (fX6_row (xs 1) (xs 2) (xs 3)) = (fX7_row (xs 1) (xs 2) (xs 3)) from eq_row (xs 1) (xs 2) (xs 3)) c)
      exact lw_end C0 hAe hS (lv_sub hl [0, 3] rfl) (show 109 ≤ 600000 from Nat.le_of_ble_eq_true rfl) (show 2593 ≤ 7302250 from Nat.le_of_ble_eq_true rfl)
    · refine oh_mV (wr := []) (As := [.int (xs 1), .int (xs 2), .int (xs 3)]) (rest := [.int (fX6_row (xs 1) (xs 2) (xs 3))]) ⟨hx, hb, hml, hown, htg⟩ (c_X7_row l D E G H.size (ma 0) (xs 1) (xs 2) (xs 3) (ma 1) (ma 2) (ma 3) (ma 4) (ma 5) (ma 6) (ma 7) (ma 8) (ma 9) (ma 10) (ma 11) (ma 12) (ma 13) (ma 14) (ma 15) (fun i => if i < 8 then some (r1 i) else none) (r1 2) (fun _ => by rw [eS]; rfl)) (cwV 3 htg (oh_gV q_1061 q_1062 q_1063 q_73 q_1064) rfl rfl rfl pdVX7_row ⟨Nat.le_of_ble_eq_true rfl, Nat.le_of_ble_eq_true rfl⟩) hK hP hD hG hS hA [0, 1, 2, 3, 4, 18, 8] [] rfl rfl (by decide) (by decide) (by decide) (va_recv hK hP (ci := 7) (q0 := 0) rfl rfl) rfl hl.1 rfl (Nat.le_of_ble_eq_true rfl) dL_law_255 ⟨(show 109 ≤ 600000 from Nat.le_of_ble_eq_true rfl), (show 2593 ≤ 7302250 from Nat.le_of_ble_eq_true rfl)⟩ (fun r_4 u H locs hw hP hD hS => ?_)
      subst hw
      refine W.widen (k := 109) (n := 2593) (Nat.le_refl _) (Nat.le_refl _) ?_
      refine lv_icmp_eq (tgt := 2047) hx hb dL_law_258 (by decide) (fun _ => ?_) (fun c => absurd (show (fX6_row (xs 1) (xs 2) (xs 3)) = (fX7_row (xs 1) (xs 2) (xs 3)) from eq_row (xs 1) (xs 2) (xs 3)) c)
      exact lw_end C0 hAe hS (lv_sub hl [0, 3] rfl) (show 109 ≤ 600000 from Nat.le_of_ble_eq_true rfl) (show 2593 ≤ 7302250 from Nat.le_of_ble_eq_true rfl)
    · refine oh_mV (wr := []) (As := [.int (xs 1), .int (xs 2), .int (xs 3)]) (rest := [.int (fX6_row (xs 1) (xs 2) (xs 3))]) ⟨hx, hb, hml, hown, htg⟩ (c_X7_row l D E G H.size (ma 0) (xs 1) (xs 2) (xs 3) (ma 1) (ma 2) (ma 3) (ma 4) (ma 5) (ma 6) (ma 7) (ma 8) (ma 9) (ma 10) (ma 11) (ma 12) (ma 13) (ma 14) (ma 15) (fun i => if i < 8 then some (r1 i) else none) (r1 3) (fun _ => by rw [eS]; rfl)) (cwV 3 htg (oh_gV q_1061 q_1062 q_1063 q_73 q_1064) rfl rfl rfl pdVX7_row ⟨Nat.le_of_ble_eq_true rfl, Nat.le_of_ble_eq_true rfl⟩) hK hP hD hG hS hA [0, 1, 2, 3, 4, 19, 8] [] rfl rfl (by decide) (by decide) (by decide) (va_recv hK hP (ci := 7) (q0 := 0) rfl rfl) rfl hl.1 rfl (Nat.le_of_ble_eq_true rfl) dL_law_255 ⟨(show 109 ≤ 600000 from Nat.le_of_ble_eq_true rfl), (show 2593 ≤ 7302250 from Nat.le_of_ble_eq_true rfl)⟩ (fun r_5 u H locs hw hP hD hS => ?_)
      subst hw
      refine W.widen (k := 109) (n := 2593) (Nat.le_refl _) (Nat.le_refl _) ?_
      refine lv_icmp_eq (tgt := 2047) hx hb dL_law_258 (by decide) (fun _ => ?_) (fun c => absurd (show (fX6_row (xs 1) (xs 2) (xs 3)) = (fX7_row (xs 1) (xs 2) (xs 3)) from eq_row (xs 1) (xs 2) (xs 3)) c)
      exact lw_end C0 hAe hS (lv_sub hl [0, 3] rfl) (show 109 ≤ 600000 from Nat.le_of_ble_eq_true rfl) (show 2593 ≤ 7302250 from Nat.le_of_ble_eq_true rfl)
    · refine oh_mV (wr := []) (As := [.int (xs 1), .int (xs 2), .int (xs 3)]) (rest := [.int (fX6_row (xs 1) (xs 2) (xs 3))]) ⟨hx, hb, hml, hown, htg⟩ (c_X7_row l D E G H.size (ma 0) (xs 1) (xs 2) (xs 3) (ma 1) (ma 2) (ma 3) (ma 4) (ma 5) (ma 6) (ma 7) (ma 8) (ma 9) (ma 10) (ma 11) (ma 12) (ma 13) (ma 14) (ma 15) (fun i => if i < 8 then some (r1 i) else none) (r1 4) (fun _ => by rw [eS]; rfl)) (cwV 3 htg (oh_gV q_1061 q_1062 q_1063 q_73 q_1064) rfl rfl rfl pdVX7_row ⟨Nat.le_of_ble_eq_true rfl, Nat.le_of_ble_eq_true rfl⟩) hK hP hD hG hS hA [0, 1, 2, 3, 4, 20, 8] [] rfl rfl (by decide) (by decide) (by decide) (va_recv hK hP (ci := 7) (q0 := 0) rfl rfl) rfl hl.1 rfl (Nat.le_of_ble_eq_true rfl) dL_law_255 ⟨(show 109 ≤ 600000 from Nat.le_of_ble_eq_true rfl), (show 2593 ≤ 7302250 from Nat.le_of_ble_eq_true rfl)⟩ (fun r_6 u H locs hw hP hD hS => ?_)
      subst hw
      refine W.widen (k := 109) (n := 2593) (Nat.le_refl _) (Nat.le_refl _) ?_
      refine lv_icmp_eq (tgt := 2047) hx hb dL_law_258 (by decide) (fun _ => ?_) (fun c => absurd (show (fX6_row (xs 1) (xs 2) (xs 3)) = (fX7_row (xs 1) (xs 2) (xs 3)) from eq_row (xs 1) (xs 2) (xs 3)) c)
      exact lw_end C0 hAe hS (lv_sub hl [0, 3] rfl) (show 109 ≤ 600000 from Nat.le_of_ble_eq_true rfl) (show 2593 ≤ 7302250 from Nat.le_of_ble_eq_true rfl)
    · refine oh_mV (wr := []) (As := [.int (xs 1), .int (xs 2), .int (xs 3)]) (rest := [.int (fX6_row (xs 1) (xs 2) (xs 3))]) ⟨hx, hb, hml, hown, htg⟩ (c_X7_row l D E G H.size (ma 0) (xs 1) (xs 2) (xs 3) (ma 1) (ma 2) (ma 3) (ma 4) (ma 5) (ma 6) (ma 7) (ma 8) (ma 9) (ma 10) (ma 11) (ma 12) (ma 13) (ma 14) (ma 15) (fun i => if i < 8 then some (r1 i) else none) (r1 5) (fun _ => by rw [eS]; rfl)) (cwV 3 htg (oh_gV q_1061 q_1062 q_1063 q_73 q_1064) rfl rfl rfl pdVX7_row ⟨Nat.le_of_ble_eq_true rfl, Nat.le_of_ble_eq_true rfl⟩) hK hP hD hG hS hA [0, 1, 2, 3, 4, 21, 8] [] rfl rfl (by decide) (by decide) (by decide) (va_recv hK hP (ci := 7) (q0 := 0) rfl rfl) rfl hl.1 rfl (Nat.le_of_ble_eq_true rfl) dL_law_255 ⟨(show 109 ≤ 600000 from Nat.le_of_ble_eq_true rfl), (show 2593 ≤ 7302250 from Nat.le_of_ble_eq_true rfl)⟩ (fun r_7 u H locs hw hP hD hS => ?_)
      subst hw
      refine W.widen (k := 109) (n := 2593) (Nat.le_refl _) (Nat.le_refl _) ?_
      refine lv_icmp_eq (tgt := 2047) hx hb dL_law_258 (by decide) (fun _ => ?_) (fun c => absurd (show (fX6_row (xs 1) (xs 2) (xs 3)) = (fX7_row (xs 1) (xs 2) (xs 3)) from eq_row (xs 1) (xs 2) (xs 3)) c)
      exact lw_end C0 hAe hS (lv_sub hl [0, 3] rfl) (show 109 ≤ 600000 from Nat.le_of_ble_eq_true rfl) (show 2593 ≤ 7302250 from Nat.le_of_ble_eq_true rfl)
    · refine oh_mV (wr := []) (As := [.int (xs 1), .int (xs 2), .int (xs 3)]) (rest := [.int (fX6_row (xs 1) (xs 2) (xs 3))]) ⟨hx, hb, hml, hown, htg⟩ (c_X7_row l D E G H.size (ma 0) (xs 1) (xs 2) (xs 3) (ma 1) (ma 2) (ma 3) (ma 4) (ma 5) (ma 6) (ma 7) (ma 8) (ma 9) (ma 10) (ma 11) (ma 12) (ma 13) (ma 14) (ma 15) (fun i => if i < 8 then some (r1 i) else none) (r1 6) (fun _ => by rw [eS]; rfl)) (cwV 3 htg (oh_gV q_1061 q_1062 q_1063 q_73 q_1064) rfl rfl rfl pdVX7_row ⟨Nat.le_of_ble_eq_true rfl, Nat.le_of_ble_eq_true rfl⟩) hK hP hD hG hS hA [0, 1, 2, 3, 4, 22, 8] [] rfl rfl (by decide) (by decide) (by decide) (va_recv hK hP (ci := 7) (q0 := 0) rfl rfl) rfl hl.1 rfl (Nat.le_of_ble_eq_true rfl) dL_law_255 ⟨(show 109 ≤ 600000 from Nat.le_of_ble_eq_true rfl), (show 2593 ≤ 7302250 from Nat.le_of_ble_eq_true rfl)⟩ (fun r_8 u H locs hw hP hD hS => ?_)
      subst hw
      refine W.widen (k := 109) (n := 2593) (Nat.le_refl _) (Nat.le_refl _) ?_
      refine lv_icmp_eq (tgt := 2047) hx hb dL_law_258 (by decide) (fun _ => ?_) (fun c => absurd (show (fX6_row (xs 1) (xs 2) (xs 3)) = (fX7_row (xs 1) (xs 2) (xs 3)) from eq_row (xs 1) (xs 2) (xs 3)) c)
      exact lw_end C0 hAe hS (lv_sub hl [0, 3] rfl) (show 109 ≤ 600000 from Nat.le_of_ble_eq_true rfl) (show 2593 ≤ 7302250 from Nat.le_of_ble_eq_true rfl)
    · refine oh_mV (wr := []) (As := [.int (xs 1), .int (xs 2), .int (xs 3)]) (rest := [.int (fX6_row (xs 1) (xs 2) (xs 3))]) ⟨hx, hb, hml, hown, htg⟩ (c_X7_row l D E G H.size (ma 0) (xs 1) (xs 2) (xs 3) (ma 1) (ma 2) (ma 3) (ma 4) (ma 5) (ma 6) (ma 7) (ma 8) (ma 9) (ma 10) (ma 11) (ma 12) (ma 13) (ma 14) (ma 15) (fun i => if i < 8 then some (r1 i) else none) (r1 7) (fun _ => by rw [eS]; rfl)) (cwV 3 htg (oh_gV q_1061 q_1062 q_1063 q_73 q_1064) rfl rfl rfl pdVX7_row ⟨Nat.le_of_ble_eq_true rfl, Nat.le_of_ble_eq_true rfl⟩) hK hP hD hG hS hA [0, 1, 2, 3, 4, 23, 8] [] rfl rfl (by decide) (by decide) (by decide) (va_recv hK hP (ci := 7) (q0 := 0) rfl rfl) rfl hl.1 rfl (Nat.le_of_ble_eq_true rfl) dL_law_255 ⟨(show 109 ≤ 600000 from Nat.le_of_ble_eq_true rfl), (show 2593 ≤ 7302250 from Nat.le_of_ble_eq_true rfl)⟩ (fun r_9 u H locs hw hP hD hS => ?_)
      subst hw
      refine W.widen (k := 109) (n := 2593) (Nat.le_refl _) (Nat.le_refl _) ?_
      refine lv_icmp_eq (tgt := 2047) hx hb dL_law_258 (by decide) (fun _ => ?_) (fun c => absurd (show (fX6_row (xs 1) (xs 2) (xs 3)) = (fX7_row (xs 1) (xs 2) (xs 3)) from eq_row (xs 1) (xs 2) (xs 3)) c)
      exact lw_end C0 hAe hS (lv_sub hl [0, 3] rfl) (show 109 ≤ 600000 from Nat.le_of_ble_eq_true rfl) (show 2593 ≤ 7302250 from Nat.le_of_ble_eq_true rfl)
  · refine oh_mV (wr := []) (As := [.int (xs 1), .int (xs 2), .int (xs 3)]) (rest := [.int (fX6_row (xs 1) (xs 2) (xs 3))]) ⟨hx, hb, hml, hown, htg⟩ (c_X7_row l D E G H.size (ma 0) (xs 1) (xs 2) (xs 3) (ma 1) (ma 2) (ma 3) (ma 4) (ma 5) (ma 6) (ma 7) (ma 8) (ma 9) (ma 10) (ma 11) (ma 12) (ma 13) (ma 14) (ma 15) (fun i => if i < 8 then some (r1 i) else none) (r1 0) (fun h8 => absurd h8 h9)) (cwV 3 htg (oh_gV q_1061 q_1062 q_1063 q_73 q_1064) rfl rfl rfl pdVX7_row ⟨Nat.le_of_ble_eq_true rfl, Nat.le_of_ble_eq_true rfl⟩) hK hP hD hG hS hA [0, 1, 2, 3, 4, 16, 8] [] rfl rfl (by decide) (by decide) (by decide) (va_recv hK hP (ci := 7) (q0 := 0) rfl rfl) rfl hl.1 rfl (Nat.le_of_ble_eq_true rfl) dL_law_255 ⟨(show 109 ≤ 600000 from Nat.le_of_ble_eq_true rfl), (show 2593 ≤ 7302250 from Nat.le_of_ble_eq_true rfl)⟩ (fun r_10 u H locs hw hP hD hS => ?_)
    subst hw
    refine W.widen (k := 109) (n := 2593) (Nat.le_refl _) (Nat.le_refl _) ?_
    refine lv_icmp_eq (tgt := 2047) hx hb dL_law_258 (by decide) (fun _ => ?_) (fun c => absurd (show (fX6_row (xs 1) (xs 2) (xs 3)) = (fX7_row (xs 1) (xs 2) (xs 3)) from eq_row (xs 1) (xs 2) (xs 3)) c)
    exact lw_end C0 hAe hS (lv_sub hl [0, 3] rfl) (show 109 ≤ 600000 from Nat.le_of_ble_eq_true rfl) (show 2593 ≤ 7302250 from Nat.le_of_ble_eq_true rfl)
set_option maxHeartbeats 4000000 in
set_option maxRecDepth 100000 in
/-- the law at one call of set -/
theorem lc_set {p : Program} {e : Env} {s : State} {m : MethodId} {below : List Frame} {meth : Method} {c : Code} (l : Launch) {b : Nat} {xs : Nat → Int32} (C0 : lw_At p s m meth c b 8 xs) {D : va_G} {E : Nat → ClassId} {G : Nat → Nat} {A : Nat → Prop} (hAe : A = fun q => s.heap.size ≤ q) (hK : va_K D vwCl (oh_ty E) s) (hG : oh_G G A s) {xa ma r1 r2 r3 r4 r5 : Nat → Nat} {H : Heap} {locs : List Loc} (hP : va_P D vwCl (lw_x E xa ++ lw_m E ma r1 r2 r3 r4 r5) H) (hD : va_D A (lw_x E xa ++ lw_m E ma r1 r2 r3 r4 r5)) (hS : va_S A s.heap H locs) {ls : Array Slot} (hl : lv_has ls 4 [(3, .int 0), (2, .ref (ma 0)), (1, .ref (xa 0)), (0, .ref b)]) : W p l e room_1 s m #[Value.ref b] below meth c H locs 109 2593 (lw_Z below #[Value.ref b] s) (F0 m 263 ls []) := by
  obtain ⟨hx, hb, hr, hml, hown, hts, hX, hbl, hlocks, hgv⟩ := id C0
  have hown : s.vm.findClass RL = some m.cls := hown
  have htg : ∀ w ∈ oh_t, w.before _ s = true := fun w h => hts w (List.mem_filter.mp h).1
  have hA : ∀ q, s.heap.size ≤ q → A q := fun q h => by rw [hAe]; exact h
  have hbA : ¬ A b := by rw [hAe]; exact Nat.not_le.mpr hbl
  refine lv_aload_n hx hb dL_law_263 rfl (lv_at hl 2 rfl) ?_
  refine lv_aload_n hx hb dL_law_264 rfl (lv_at hl 3 rfl) ?_
  refine lv_iload_n hx hb dL_law_265 rfl (lv_at hl 0 rfl) ?_
  refine lv_iconst (v := 1) hx hb dL_law_266 (by decide) ?_
  refine lv_iadd hx hb dL_law_267 ?_
  refine oh_nrm (v := 1) (by decide) ?_
  refine va_sld hx hb hX hbl hbA hS (show vp_in 1 8 by unfold vp_in; decide) dL_law_268 ?_
  refine oh_nrm (v := xs 1) rfl ?_
  refine lv_aload_n hx hb dL_law_269 rfl (lv_at hl 3 rfl) ?_
  refine lv_iload_n hx hb dL_law_270 rfl (lv_at hl 0 rfl) ?_
  refine lv_iconst (v := 2) hx hb dL_law_271 (by decide) ?_
  refine lv_iadd hx hb dL_law_272 ?_
  refine oh_nrm (v := 2) (by decide) ?_
  refine va_sld hx hb hX hbl hbA hS (show vp_in 2 8 by unfold vp_in; decide) dL_law_273 ?_
  refine oh_nrm (v := xs 2) rfl ?_
  refine lv_aload_n hx hb dL_law_274 rfl (lv_at hl 3 rfl) ?_
  refine lv_iload_n hx hb dL_law_275 rfl (lv_at hl 0 rfl) ?_
  refine lv_iconst (v := 3) hx hb dL_law_276 (by decide) ?_
  refine lv_iadd hx hb dL_law_277 ?_
  refine oh_nrm (v := 3) (by decide) ?_
  refine va_sld hx hb hX hbl hbA hS (show vp_in 3 8 by unfold vp_in; decide) dL_law_278 ?_
  refine oh_nrm (v := xs 3) rfl ?_
  refine lv_i2l (v := Int32.toInt64 (xs 3)) hx hb dL_law_279 (by rfl) ?_
  refine lv_bipush (v := 32) hx hb dL_law_280 (by decide) ?_
  refine lv_lshl (v := (Int32.toInt64 (xs 3)) <<< (Int32.toInt64 32 &&& 63)) hx hb dL_law_282 rfl ?_
  refine lv_aload_n hx hb dL_law_283 rfl (lv_at hl 3 rfl) ?_
  refine lv_iload_n hx hb dL_law_284 rfl (lv_at hl 0 rfl) ?_
  refine lv_iconst (v := 4) hx hb dL_law_285 (by decide) ?_
  refine lv_iadd hx hb dL_law_286 ?_
  refine oh_nrm (v := 4) (by decide) ?_
  refine va_sld hx hb hX hbl hbA hS (show vp_in 4 8 by unfold vp_in; decide) dL_law_287 ?_
  refine oh_nrm (v := xs 4) rfl ?_
  refine lv_i2l (v := Int32.toInt64 (xs 4)) hx hb dL_law_288 (by rfl) ?_
  refine lv_ldc2 (v := 4294967295) hx hb hown (htg _ q_1446) dL_law_289 ?_
  refine lv_land hx hb dL_law_292 ?_
  refine lv_lor hx hb dL_law_293 ?_
  refine oh_lV (wx := lw_x E xa) (wm := lw_m E ma r1 r2 r3 r4 r5) (As := [.int (xs 1), .int (xs 2), .long (((Int32.toInt64 (xs 3)) <<< (Int32.toInt64 32 &&& 63)) ||| ((Int32.toInt64 (xs 4)) &&& 4294967295))]) (rest := []) ⟨hx, hb, hml, hown, htg⟩ (c_X6_set l D E G H.size (xa 0) (xs 1) (xs 2) (((Int32.toInt64 (xs 3)) <<< (Int32.toInt64 32 &&& 63)) ||| ((Int32.toInt64 (xs 4)) &&& 4294967295)) (xa 1) (xa 9) (xa 17) (xa 24) (xa 28) (xa 30) (xa 33) (xa 34) (xa 25) (xa 26) (xa 27)) (cwV 3 htg (oh_gV q_304 q_305 q_306 q_66 q_307) rfl rfl rfl pdVX6_set ⟨Nat.le_of_ble_eq_true rfl, Nat.le_of_ble_eq_true rfl⟩) hK hP hD hG hS hA [0, 24, 25, 33] rfl (by decide) (show ∀ i ∈ ([0, 24, 25, 33] : List Nat), i < 35 by decide) (va_recv hK hP (ci := 6) (q0 := 0) rfl rfl) rfl hl.1 rfl (Nat.le_of_ble_eq_true rfl) dL_law_294 ⟨(show 109 ≤ 600000 from Nat.le_of_ble_eq_true rfl), (show 2593 ≤ 7302250 from Nat.le_of_ble_eq_true rfl)⟩ (fun r_1 u H locs hw hP hD hS => ?_)
  subst hw
  refine W.widen (k := 109) (n := 2593) (Nat.le_refl _) (Nat.le_refl _) ?_
  refine lv_aload_n hx hb dL_law_297 rfl (lv_at hl 1 rfl) ?_
  refine lv_aload_n hx hb dL_law_298 rfl (lv_at hl 3 rfl) ?_
  refine lv_iload_n hx hb dL_law_299 rfl (lv_at hl 0 rfl) ?_
  refine lv_iconst (v := 1) hx hb dL_law_300 (by decide) ?_
  refine lv_iadd hx hb dL_law_301 ?_
  refine oh_nrm (v := 1) (by decide) ?_
  refine va_sld hx hb hX hbl hbA hS (show vp_in 1 8 by unfold vp_in; decide) dL_law_302 ?_
  refine oh_nrm (v := xs 1) rfl ?_
  refine lv_aload_n hx hb dL_law_303 rfl (lv_at hl 3 rfl) ?_
  refine lv_iload_n hx hb dL_law_304 rfl (lv_at hl 0 rfl) ?_
  refine lv_iconst (v := 2) hx hb dL_law_305 (by decide) ?_
  refine lv_iadd hx hb dL_law_306 ?_
  refine oh_nrm (v := 2) (by decide) ?_
  refine va_sld hx hb hX hbl hbA hS (show vp_in 2 8 by unfold vp_in; decide) dL_law_307 ?_
  refine oh_nrm (v := xs 2) rfl ?_
  refine lv_aload_n hx hb dL_law_308 rfl (lv_at hl 3 rfl) ?_
  refine lv_iload_n hx hb dL_law_309 rfl (lv_at hl 0 rfl) ?_
  refine lv_iconst (v := 3) hx hb dL_law_310 (by decide) ?_
  refine lv_iadd hx hb dL_law_311 ?_
  refine oh_nrm (v := 3) (by decide) ?_
  refine va_sld hx hb hX hbl hbA hS (show vp_in 3 8 by unfold vp_in; decide) dL_law_312 ?_
  refine oh_nrm (v := xs 3) rfl ?_
  refine lv_i2l (v := Int32.toInt64 (xs 3)) hx hb dL_law_313 (by rfl) ?_
  refine lv_bipush (v := 32) hx hb dL_law_314 (by decide) ?_
  refine lv_lshl (v := (Int32.toInt64 (xs 3)) <<< (Int32.toInt64 32 &&& 63)) hx hb dL_law_316 rfl ?_
  refine lv_aload_n hx hb dL_law_317 rfl (lv_at hl 3 rfl) ?_
  refine lv_iload_n hx hb dL_law_318 rfl (lv_at hl 0 rfl) ?_
  refine lv_iconst (v := 4) hx hb dL_law_319 (by decide) ?_
  refine lv_iadd hx hb dL_law_320 ?_
  refine oh_nrm (v := 4) (by decide) ?_
  refine va_sld hx hb hX hbl hbA hS (show vp_in 4 8 by unfold vp_in; decide) dL_law_321 ?_
  refine oh_nrm (v := xs 4) rfl ?_
  refine lv_i2l (v := Int32.toInt64 (xs 4)) hx hb dL_law_322 (by rfl) ?_
  refine lv_ldc2 (v := 4294967295) hx hb hown (htg _ q_1446) dL_law_323 ?_
  refine lv_land hx hb dL_law_326 ?_
  refine lv_lor hx hb dL_law_327 ?_
  refine oh_mV (wr := []) (As := [.int (xs 1), .int (xs 2), .long (((Int32.toInt64 (xs 3)) <<< (Int32.toInt64 32 &&& 63)) ||| ((Int32.toInt64 (xs 4)) &&& 4294967295))]) (rest := [.int (fX6_whyNoRow (xs 1))]) ⟨hx, hb, hml, hown, htg⟩ (c_X7_set l D E G H.size (ma 0) (xs 1) (xs 2) (((Int32.toInt64 (xs 3)) <<< (Int32.toInt64 32 &&& 63)) ||| ((Int32.toInt64 (xs 4)) &&& 4294967295)) (ma 1) (ma 2) (ma 3) (ma 4) (ma 5) (ma 6) (ma 7) (ma 8) (ma 9) (ma 10) (ma 11) (ma 12) (ma 13) (ma 14) (ma 15)) (cwV 3 htg (oh_gV q_1075 q_1076 q_1077 q_73 q_1078) rfl rfl rfl pdVX7_set ⟨Nat.le_of_ble_eq_true rfl, Nat.le_of_ble_eq_true rfl⟩) hK hP hD hG hS hA [0, 1, 8] [] rfl rfl (by decide) (by decide) (by decide) (va_recv hK hP (ci := 7) (q0 := 0) rfl rfl) rfl hl.1 rfl (Nat.le_of_ble_eq_true rfl) dL_law_328 ⟨(show 109 ≤ 600000 from Nat.le_of_ble_eq_true rfl), (show 2593 ≤ 7302250 from Nat.le_of_ble_eq_true rfl)⟩ (fun r_2 u H locs hw hP hD hS => ?_)
  subst hw
  refine W.widen (k := 109) (n := 2593) (Nat.le_refl _) (Nat.le_refl _) ?_
  refine lv_icmp_eq (tgt := 2047) hx hb dL_law_331 (by decide) (fun _ => ?_) (fun c => absurd (show (fX6_whyNoRow (xs 1)) = (fX7_set (xs 1) (xs 2) (((Int32.toInt64 (xs 3)) <<< (Int32.toInt64 32 &&& 63)) ||| ((Int32.toInt64 (xs 4)) &&& 4294967295))) from eq_set (xs 1) (xs 2) (xs 3) (xs 4)) c)
  exact lw_end C0 hAe hS (lv_sub hl [0, 3] rfl) (show 109 ≤ 600000 from Nat.le_of_ble_eq_true rfl) (show 2593 ≤ 7302250 from Nat.le_of_ble_eq_true rfl)
set_option maxHeartbeats 4000000 in
set_option maxRecDepth 100000 in
/-- the law at one call of copy -/
theorem lc_copy {p : Program} {e : Env} {s : State} {m : MethodId} {below : List Frame} {meth : Method} {c : Code} (l : Launch) {b : Nat} {xs : Nat → Int32} (C0 : lw_At p s m meth c b 8 xs) {D : va_G} {E : Nat → ClassId} {G : Nat → Nat} {A : Nat → Prop} (hAe : A = fun q => s.heap.size ≤ q) (hK : va_K D vwCl (oh_ty E) s) (hG : oh_G G A s) {xa ma r1 r2 r3 r4 r5 : Nat → Nat} {H : Heap} {locs : List Loc} (hP : va_P D vwCl (lw_x E xa ++ lw_m E ma r1 r2 r3 r4 r5) H) (hD : va_D A (lw_x E xa ++ lw_m E ma r1 r2 r3 r4 r5)) (hS : va_S A s.heap H locs) {ls : Array Slot} (hl : lv_has ls 4 [(3, .int 0), (2, .ref (ma 0)), (1, .ref (xa 0)), (0, .ref b)]) : W p l e room_1 s m #[Value.ref b] below meth c H locs 109 2593 (lw_Z below #[Value.ref b] s) (F0 m 336 ls []) := by
  obtain ⟨hx, hb, hr, hml, hown, hts, hX, hbl, hlocks, hgv⟩ := id C0
  have hown : s.vm.findClass RL = some m.cls := hown
  have htg : ∀ w ∈ oh_t, w.before _ s = true := fun w h => hts w (List.mem_filter.mp h).1
  have hA : ∀ q, s.heap.size ≤ q → A q := fun q h => by rw [hAe]; exact h
  have hbA : ¬ A b := by rw [hAe]; exact Nat.not_le.mpr hbl
  refine lv_aload_n hx hb dL_law_336 rfl (lv_at hl 2 rfl) ?_
  refine lv_aload_n hx hb dL_law_337 rfl (lv_at hl 3 rfl) ?_
  refine lv_iload_n hx hb dL_law_338 rfl (lv_at hl 0 rfl) ?_
  refine lv_iconst (v := 1) hx hb dL_law_339 (by decide) ?_
  refine lv_iadd hx hb dL_law_340 ?_
  refine oh_nrm (v := 1) (by decide) ?_
  refine va_sld hx hb hX hbl hbA hS (show vp_in 1 8 by unfold vp_in; decide) dL_law_341 ?_
  refine oh_nrm (v := xs 1) rfl ?_
  refine lv_aload_n hx hb dL_law_342 rfl (lv_at hl 3 rfl) ?_
  refine lv_iload_n hx hb dL_law_343 rfl (lv_at hl 0 rfl) ?_
  refine lv_iconst (v := 2) hx hb dL_law_344 (by decide) ?_
  refine lv_iadd hx hb dL_law_345 ?_
  refine oh_nrm (v := 2) (by decide) ?_
  refine va_sld hx hb hX hbl hbA hS (show vp_in 2 8 by unfold vp_in; decide) dL_law_346 ?_
  refine oh_nrm (v := xs 2) rfl ?_
  refine lv_aload_n hx hb dL_law_347 rfl (lv_at hl 3 rfl) ?_
  refine lv_iload_n hx hb dL_law_348 rfl (lv_at hl 0 rfl) ?_
  refine lv_iconst (v := 3) hx hb dL_law_349 (by decide) ?_
  refine lv_iadd hx hb dL_law_350 ?_
  refine oh_nrm (v := 3) (by decide) ?_
  refine va_sld hx hb hX hbl hbA hS (show vp_in 3 8 by unfold vp_in; decide) dL_law_351 ?_
  refine oh_nrm (v := xs 3) rfl ?_
  refine lv_aload_n hx hb dL_law_352 rfl (lv_at hl 3 rfl) ?_
  refine lv_iload_n hx hb dL_law_353 rfl (lv_at hl 0 rfl) ?_
  refine lv_iconst (v := 4) hx hb dL_law_354 (by decide) ?_
  refine lv_iadd hx hb dL_law_355 ?_
  refine oh_nrm (v := 4) (by decide) ?_
  refine va_sld hx hb hX hbl hbA hS (show vp_in 4 8 by unfold vp_in; decide) dL_law_356 ?_
  refine oh_nrm (v := xs 4) rfl ?_
  refine lv_aload_n hx hb dL_law_357 rfl (lv_at hl 3 rfl) ?_
  refine lv_iload_n hx hb dL_law_358 rfl (lv_at hl 0 rfl) ?_
  refine lv_iconst (v := 5) hx hb dL_law_359 (by decide) ?_
  refine lv_iadd hx hb dL_law_360 ?_
  refine oh_nrm (v := 5) (by decide) ?_
  refine va_sld hx hb hX hbl hbA hS (show vp_in 5 8 by unfold vp_in; decide) dL_law_361 ?_
  refine oh_nrm (v := xs 5) rfl ?_
  refine oh_lV (wx := lw_x E xa) (wm := lw_m E ma r1 r2 r3 r4 r5) (As := [.int (xs 1), .int (xs 2), .int (xs 3), .int (xs 4), .int (xs 5)]) (rest := []) ⟨hx, hb, hml, hown, htg⟩ (c_X6_copy l D E G H.size (xa 0) (xs 1) (xs 2) (xs 3) (xs 4) (xs 5) (xa 1) (xa 9) (xa 17) (xa 24) (xa 28) (xa 30) (xa 33) (xa 34) (xa 25) (xa 26) (xa 27)) (cwV 5 htg (oh_gV q_327 q_328 q_329 q_66 q_330) rfl rfl rfl pdVX6_copy ⟨Nat.le_of_ble_eq_true rfl, Nat.le_of_ble_eq_true rfl⟩) hK hP hD hG hS hA [0, 24, 25, 33] rfl (by decide) (show ∀ i ∈ ([0, 24, 25, 33] : List Nat), i < 35 by decide) (va_recv hK hP (ci := 6) (q0 := 0) rfl rfl) rfl hl.1 rfl (Nat.le_of_ble_eq_true rfl) dL_law_362 ⟨(show 109 ≤ 600000 from Nat.le_of_ble_eq_true rfl), (show 2593 ≤ 7302250 from Nat.le_of_ble_eq_true rfl)⟩ (fun r_1 u H locs hw hP hD hS => ?_)
  subst hw
  refine W.widen (k := 109) (n := 2593) (Nat.le_refl _) (Nat.le_refl _) ?_
  refine lv_aload_n hx hb dL_law_365 rfl (lv_at hl 1 rfl) ?_
  refine lv_aload_n hx hb dL_law_366 rfl (lv_at hl 3 rfl) ?_
  refine lv_iload_n hx hb dL_law_367 rfl (lv_at hl 0 rfl) ?_
  refine lv_iconst (v := 1) hx hb dL_law_368 (by decide) ?_
  refine lv_iadd hx hb dL_law_369 ?_
  refine oh_nrm (v := 1) (by decide) ?_
  refine va_sld hx hb hX hbl hbA hS (show vp_in 1 8 by unfold vp_in; decide) dL_law_370 ?_
  refine oh_nrm (v := xs 1) rfl ?_
  refine lv_aload_n hx hb dL_law_371 rfl (lv_at hl 3 rfl) ?_
  refine lv_iload_n hx hb dL_law_372 rfl (lv_at hl 0 rfl) ?_
  refine lv_iconst (v := 2) hx hb dL_law_373 (by decide) ?_
  refine lv_iadd hx hb dL_law_374 ?_
  refine oh_nrm (v := 2) (by decide) ?_
  refine va_sld hx hb hX hbl hbA hS (show vp_in 2 8 by unfold vp_in; decide) dL_law_375 ?_
  refine oh_nrm (v := xs 2) rfl ?_
  refine lv_aload_n hx hb dL_law_376 rfl (lv_at hl 3 rfl) ?_
  refine lv_iload_n hx hb dL_law_377 rfl (lv_at hl 0 rfl) ?_
  refine lv_iconst (v := 3) hx hb dL_law_378 (by decide) ?_
  refine lv_iadd hx hb dL_law_379 ?_
  refine oh_nrm (v := 3) (by decide) ?_
  refine va_sld hx hb hX hbl hbA hS (show vp_in 3 8 by unfold vp_in; decide) dL_law_380 ?_
  refine oh_nrm (v := xs 3) rfl ?_
  refine lv_aload_n hx hb dL_law_381 rfl (lv_at hl 3 rfl) ?_
  refine lv_iload_n hx hb dL_law_382 rfl (lv_at hl 0 rfl) ?_
  refine lv_iconst (v := 4) hx hb dL_law_383 (by decide) ?_
  refine lv_iadd hx hb dL_law_384 ?_
  refine oh_nrm (v := 4) (by decide) ?_
  refine va_sld hx hb hX hbl hbA hS (show vp_in 4 8 by unfold vp_in; decide) dL_law_385 ?_
  refine oh_nrm (v := xs 4) rfl ?_
  refine lv_aload_n hx hb dL_law_386 rfl (lv_at hl 3 rfl) ?_
  refine lv_iload_n hx hb dL_law_387 rfl (lv_at hl 0 rfl) ?_
  refine lv_iconst (v := 5) hx hb dL_law_388 (by decide) ?_
  refine lv_iadd hx hb dL_law_389 ?_
  refine oh_nrm (v := 5) (by decide) ?_
  refine va_sld hx hb hX hbl hbA hS (show vp_in 5 8 by unfold vp_in; decide) dL_law_390 ?_
  refine oh_nrm (v := xs 5) rfl ?_
  refine oh_mV (wr := []) (As := [.int (xs 1), .int (xs 2), .int (xs 3), .int (xs 4), .int (xs 5)]) (rest := [.int (fX6_copy (xs 1) (xs 2) (xs 3) (xs 4) (xs 5))]) ⟨hx, hb, hml, hown, htg⟩ (c_X7_copy l D E G H.size (ma 0) (xs 1) (xs 2) (xs 3) (xs 4) (xs 5) (ma 1) (ma 2) (ma 3) (ma 4) (ma 5) (ma 6) (ma 7) (ma 8) (ma 9) (ma 10) (ma 11) (ma 12) (ma 13) (ma 14) (ma 15)) (cwV 5 htg (oh_gV q_1082 q_1083 q_1084 q_73 q_1085) rfl rfl rfl pdVX7_copy ⟨Nat.le_of_ble_eq_true rfl, Nat.le_of_ble_eq_true rfl⟩) hK hP hD hG hS hA [0, 1, 8] [] rfl rfl (by decide) (by decide) (by decide) (va_recv hK hP (ci := 7) (q0 := 0) rfl rfl) rfl hl.1 rfl (Nat.le_of_ble_eq_true rfl) dL_law_391 ⟨(show 109 ≤ 600000 from Nat.le_of_ble_eq_true rfl), (show 2593 ≤ 7302250 from Nat.le_of_ble_eq_true rfl)⟩ (fun r_2 u H locs hw hP hD hS => ?_)
  subst hw
  refine W.widen (k := 109) (n := 2593) (Nat.le_refl _) (Nat.le_refl _) ?_
  refine lv_icmp_eq (tgt := 2047) hx hb dL_law_394 (by decide) (fun _ => ?_) (fun c => absurd (show (fX6_copy (xs 1) (xs 2) (xs 3) (xs 4) (xs 5)) = (fX7_copy (xs 1) (xs 2) (xs 3) (xs 4) (xs 5)) from eq_copy (xs 1) (xs 2) (xs 3) (xs 4) (xs 5)) c)
  exact lw_end C0 hAe hS (lv_sub hl [0, 3] rfl) (show 109 ≤ 600000 from Nat.le_of_ble_eq_true rfl) (show 2593 ≤ 7302250 from Nat.le_of_ble_eq_true rfl)
set_option maxHeartbeats 4000000 in
set_option maxRecDepth 100000 in
/-- the law at one call of element -/
theorem lc_element {p : Program} {e : Env} {s : State} {m : MethodId} {below : List Frame} {meth : Method} {c : Code} (l : Launch) {b : Nat} {xs : Nat → Int32} (C0 : lw_At p s m meth c b 8 xs) {D : va_G} {E : Nat → ClassId} {G : Nat → Nat} {A : Nat → Prop} (hAe : A = fun q => s.heap.size ≤ q) (hK : va_K D vwCl (oh_ty E) s) (hG : oh_G G A s) {xa ma r1 r2 r3 r4 r5 : Nat → Nat} {H : Heap} {locs : List Loc} (hP : va_P D vwCl (lw_x E xa ++ lw_m E ma r1 r2 r3 r4 r5) H) (hD : va_D A (lw_x E xa ++ lw_m E ma r1 r2 r3 r4 r5)) (hS : va_S A s.heap H locs) {ls : Array Slot} (hl : lv_has ls 4 [(3, .int 0), (2, .ref (ma 0)), (1, .ref (xa 0)), (0, .ref b)]) : W p l e room_1 s m #[Value.ref b] below meth c H locs 109 2593 (lw_Z below #[Value.ref b] s) (F0 m 399 ls []) := by
  obtain ⟨hx, hb, hr, hml, hown, hts, hX, hbl, hlocks, hgv⟩ := id C0
  have hown : s.vm.findClass RL = some m.cls := hown
  have htg : ∀ w ∈ oh_t, w.before _ s = true := fun w h => hts w (List.mem_filter.mp h).1
  have hA : ∀ q, s.heap.size ≤ q → A q := fun q h => by rw [hAe]; exact h
  have hbA : ¬ A b := by rw [hAe]; exact Nat.not_le.mpr hbl
  refine lv_aload_n hx hb dL_law_399 rfl (lv_at hl 2 rfl) ?_
  refine lv_aload_n hx hb dL_law_400 rfl (lv_at hl 3 rfl) ?_
  refine lv_iload_n hx hb dL_law_401 rfl (lv_at hl 0 rfl) ?_
  refine lv_iconst (v := 1) hx hb dL_law_402 (by decide) ?_
  refine lv_iadd hx hb dL_law_403 ?_
  refine oh_nrm (v := 1) (by decide) ?_
  refine va_sld hx hb hX hbl hbA hS (show vp_in 1 8 by unfold vp_in; decide) dL_law_404 ?_
  refine oh_nrm (v := xs 1) rfl ?_
  refine lv_aload_n hx hb dL_law_405 rfl (lv_at hl 3 rfl) ?_
  refine lv_iload_n hx hb dL_law_406 rfl (lv_at hl 0 rfl) ?_
  refine lv_iconst (v := 2) hx hb dL_law_407 (by decide) ?_
  refine lv_iadd hx hb dL_law_408 ?_
  refine oh_nrm (v := 2) (by decide) ?_
  refine va_sld hx hb hX hbl hbA hS (show vp_in 2 8 by unfold vp_in; decide) dL_law_409 ?_
  refine oh_nrm (v := xs 2) rfl ?_
  refine oh_pVl (As := [.int (xs 1), .int (xs 2)]) (rest := []) (vl := 0) ⟨hx, hb, hml, hown, htg⟩ (c_X6_element l D E G (xa 0) (xs 1) (xs 2) (xa 1) (xa 9) (xa 17) (xa 24) (xa 28) (xa 30) (xa 33) (xa 34) (xa 25) (xa 26) (xa 27)) (cwV 2 htg (oh_gV q_348 q_349 q_350 q_66 q_351) rfl rfl rfl pdVX6_element ⟨Nat.le_of_ble_eq_true rfl, Nat.le_of_ble_eq_true rfl⟩) hK (hP.sub (ws' := [(xa 0, .inr (6, [.ref (xa 1), .ref (xa 9), .int 0, .ref (xa 17), .ref (xa 24), .ref (xa 28), .ref (xa 30), .ref (xa 33), .ref (xa 34)])), (xa 24, .inr (3, [.ref (xa 25), .ref (xa 26), .ref (xa 27)])), (xa 25, .inl (E 0, 8, .inl (fun _ => (-1))))]) [0, 24, 25] rfl) hG hS (va_recv hK hP (ci := 6) (q0 := 0) rfl rfl) rfl hl.1 rfl (Nat.le_of_ble_eq_true rfl) dL_law_410 ⟨(show 109 ≤ 600000 from Nat.le_of_ble_eq_true rfl), (show 2593 ≤ 7302250 from Nat.le_of_ble_eq_true rfl)⟩ ?_
  refine lv_aload_n hx hb dL_law_413 rfl (lv_at hl 1 rfl) ?_
  refine lv_aload_n hx hb dL_law_414 rfl (lv_at hl 3 rfl) ?_
  refine lv_iload_n hx hb dL_law_415 rfl (lv_at hl 0 rfl) ?_
  refine lv_iconst (v := 1) hx hb dL_law_416 (by decide) ?_
  refine lv_iadd hx hb dL_law_417 ?_
  refine oh_nrm (v := 1) (by decide) ?_
  refine va_sld hx hb hX hbl hbA hS (show vp_in 1 8 by unfold vp_in; decide) dL_law_418 ?_
  refine oh_nrm (v := xs 1) rfl ?_
  refine lv_aload_n hx hb dL_law_419 rfl (lv_at hl 3 rfl) ?_
  refine lv_iload_n hx hb dL_law_420 rfl (lv_at hl 0 rfl) ?_
  refine lv_iconst (v := 2) hx hb dL_law_421 (by decide) ?_
  refine lv_iadd hx hb dL_law_422 ?_
  refine oh_nrm (v := 2) (by decide) ?_
  refine va_sld hx hb hX hbl hbA hS (show vp_in 2 8 by unfold vp_in; decide) dL_law_423 ?_
  refine oh_nrm (v := xs 2) rfl ?_
  refine oh_pVl (As := [.int (xs 1), .int (xs 2)]) (rest := [.long 0]) (vl := 0) ⟨hx, hb, hml, hown, htg⟩ (c_X7_element l D E G (ma 0) (xs 1) (xs 2) (ma 1) (ma 2) (ma 3) (ma 4) (ma 5) (ma 6) (ma 7) (ma 8) (ma 9) (ma 10) (ma 11) (ma 12) (ma 13) (ma 14) (ma 15)) (cwV 2 htg (oh_gV q_1086 q_1087 q_1088 q_73 q_1089) rfl rfl rfl pdVX7_element ⟨Nat.le_of_ble_eq_true rfl, Nat.le_of_ble_eq_true rfl⟩) hK (hP.sub (ws' := [(ma 0, .inr (7, [.ref (ma 1), .ref (ma 2), .ref (ma 3), .ref (ma 4), .ref (ma 5), .ref (ma 6), .ref (ma 7), .int 0, .ref (ma 8), .int 0, .ref (ma 9), .int 0, .ref (ma 10), .int 0, .ref (ma 11), .int 0, .ref (ma 12), .ref (ma 13), .ref (ma 14), .int 0, .null, .int 0, .int 0, .int 0, .long 0, .int 0, .int 0, .ref (ma 15), .int 0])), (ma 1, .inl (E 0, 8, .inl (fun _ => 0)))]) [35, 36] rfl) hG hS (va_recv hK hP (ci := 7) (q0 := 35) rfl rfl) rfl hl.1 rfl (Nat.le_of_ble_eq_true rfl) dL_law_424 ⟨(show 109 ≤ 600000 from Nat.le_of_ble_eq_true rfl), (show 2593 ≤ 7302250 from Nat.le_of_ble_eq_true rfl)⟩ ?_
  refine W.lcmp hx hb dL_law_427 ?_
  refine oh_nrm (v := 0) ((lg_cmp_eq _ _).mpr (rfl)) ?_
  refine lv_if_eq (tgt := 2047) hx hb dL_law_428 (by decide) (fun _ => ?_) (fun c => absurd (show (0 : Int32) = 0 from by decide) c)
  exact lw_end C0 hAe hS (lv_sub hl [0, 3] rfl) (show 109 ≤ 600000 from Nat.le_of_ble_eq_true rfl) (show 2593 ≤ 7302250 from Nat.le_of_ble_eq_true rfl)
set_option maxHeartbeats 4000000 in
set_option maxRecDepth 100000 in
/-- the law at one call of holds -/
theorem lc_holds {p : Program} {e : Env} {s : State} {m : MethodId} {below : List Frame} {meth : Method} {c : Code} (l : Launch) {b : Nat} {xs : Nat → Int32} (C0 : lw_At p s m meth c b 8 xs) {D : va_G} {E : Nat → ClassId} {G : Nat → Nat} {A : Nat → Prop} (hAe : A = fun q => s.heap.size ≤ q) (hK : va_K D vwCl (oh_ty E) s) (hG : oh_G G A s) {xa ma r1 r2 r3 r4 r5 : Nat → Nat} {H : Heap} {locs : List Loc} (hP : va_P D vwCl (lw_x E xa ++ lw_m E ma r1 r2 r3 r4 r5) H) (hD : va_D A (lw_x E xa ++ lw_m E ma r1 r2 r3 r4 r5)) (hS : va_S A s.heap H locs) {ls : Array Slot} (hl : lv_has ls 4 [(3, .int 0), (2, .ref (ma 0)), (1, .ref (xa 0)), (0, .ref b)]) : W p l e room_1 s m #[Value.ref b] below meth c H locs 109 2593 (lw_Z below #[Value.ref b] s) (F0 m 433 ls []) := by
  obtain ⟨hx, hb, hr, hml, hown, hts, hX, hbl, hlocks, hgv⟩ := id C0
  have hown : s.vm.findClass RL = some m.cls := hown
  have htg : ∀ w ∈ oh_t, w.before _ s = true := fun w h => hts w (List.mem_filter.mp h).1
  have hA : ∀ q, s.heap.size ≤ q → A q := fun q h => by rw [hAe]; exact h
  have hbA : ¬ A b := by rw [hAe]; exact Nat.not_le.mpr hbl
  refine lv_aload_n hx hb dL_law_433 rfl (lv_at hl 2 rfl) ?_
  refine lv_aload_n hx hb dL_law_434 rfl (lv_at hl 3 rfl) ?_
  refine lv_iload_n hx hb dL_law_435 rfl (lv_at hl 0 rfl) ?_
  refine lv_iconst (v := 1) hx hb dL_law_436 (by decide) ?_
  refine lv_iadd hx hb dL_law_437 ?_
  refine oh_nrm (v := 1) (by decide) ?_
  refine va_sld hx hb hX hbl hbA hS (show vp_in 1 8 by unfold vp_in; decide) dL_law_438 ?_
  refine oh_nrm (v := xs 1) rfl ?_
  refine oh_pV (As := [.int (xs 1)]) (rest := []) (v := (-1)) ⟨hx, hb, hml, hown, htg⟩ (c_X6_holds l D E G (xa 0) (xs 1) (xa 1) (xa 9) (xa 17) (xa 24) (xa 28) (xa 30) (xa 33) (xa 34) (xa 25) (xa 26) (xa 27)) (cwV 1 htg (oh_gV q_358 q_359 q_360 q_66 q_361) rfl rfl rfl pdVX6_holds ⟨Nat.le_of_ble_eq_true rfl, Nat.le_of_ble_eq_true rfl⟩) hK (hP.sub (ws' := [(xa 0, .inr (6, [.ref (xa 1), .ref (xa 9), .int 0, .ref (xa 17), .ref (xa 24), .ref (xa 28), .ref (xa 30), .ref (xa 33), .ref (xa 34)])), (xa 24, .inr (3, [.ref (xa 25), .ref (xa 26), .ref (xa 27)])), (xa 25, .inl (E 0, 8, .inl (fun _ => (-1))))]) [0, 24, 25] rfl) hG hS (va_recv hK hP (ci := 6) (q0 := 0) rfl rfl) rfl hl.1 rfl (Nat.le_of_ble_eq_true rfl) dL_law_439 ⟨(show 109 ≤ 600000 from Nat.le_of_ble_eq_true rfl), (show 2593 ≤ 7302250 from Nat.le_of_ble_eq_true rfl)⟩ ?_
  refine lv_aload_n hx hb dL_law_442 rfl (lv_at hl 1 rfl) ?_
  refine lv_aload_n hx hb dL_law_443 rfl (lv_at hl 3 rfl) ?_
  refine lv_iload_n hx hb dL_law_444 rfl (lv_at hl 0 rfl) ?_
  refine lv_iconst (v := 1) hx hb dL_law_445 (by decide) ?_
  refine lv_iadd hx hb dL_law_446 ?_
  refine oh_nrm (v := 1) (by decide) ?_
  refine va_sld hx hb hX hbl hbA hS (show vp_in 1 8 by unfold vp_in; decide) dL_law_447 ?_
  refine oh_nrm (v := xs 1) rfl ?_
  refine oh_pV (As := [.int (xs 1)]) (rest := [.int (-1)]) (v := (-1)) ⟨hx, hb, hml, hown, htg⟩ (c_X7_holds l D E G (ma 0) (xs 1) (ma 1) (ma 2) (ma 3) (ma 4) (ma 5) (ma 6) (ma 7) (ma 8) (ma 9) (ma 10) (ma 11) (ma 12) (ma 13) (ma 14) (ma 15)) (cwV 1 htg (oh_gV q_1090 q_1091 q_1092 q_73 q_1093) rfl rfl rfl pdVX7_holds ⟨Nat.le_of_ble_eq_true rfl, Nat.le_of_ble_eq_true rfl⟩) hK (hP.sub (ws' := [(ma 0, .inr (7, [.ref (ma 1), .ref (ma 2), .ref (ma 3), .ref (ma 4), .ref (ma 5), .ref (ma 6), .ref (ma 7), .int 0, .ref (ma 8), .int 0, .ref (ma 9), .int 0, .ref (ma 10), .int 0, .ref (ma 11), .int 0, .ref (ma 12), .ref (ma 13), .ref (ma 14), .int 0, .null, .int 0, .int 0, .int 0, .long 0, .int 0, .int 0, .ref (ma 15), .int 0])), (ma 1, .inl (E 0, 8, .inl (fun _ => 0)))]) [35, 36] rfl) hG hS (va_recv hK hP (ci := 7) (q0 := 35) rfl rfl) rfl hl.1 rfl (Nat.le_of_ble_eq_true rfl) dL_law_448 ⟨(show 109 ≤ 600000 from Nat.le_of_ble_eq_true rfl), (show 2593 ≤ 7302250 from Nat.le_of_ble_eq_true rfl)⟩ ?_
  refine lv_icmp_eq (tgt := 2047) hx hb dL_law_451 (by decide) (fun _ => ?_) (fun c => absurd (show (-1 : Int32) = (-1) from by decide) c)
  exact lw_end C0 hAe hS (lv_sub hl [0, 3] rfl) (show 109 ≤ 600000 from Nat.le_of_ble_eq_true rfl) (show 2593 ≤ 7302250 from Nat.le_of_ble_eq_true rfl)
set_option maxHeartbeats 4000000 in
set_option maxRecDepth 100000 in
/-- the law at one call of show -/
theorem lc_show {p : Program} {e : Env} {s : State} {m : MethodId} {below : List Frame} {meth : Method} {c : Code} (l : Launch) {b : Nat} {xs : Nat → Int32} (C0 : lw_At p s m meth c b 8 xs) {D : va_G} {E : Nat → ClassId} {G : Nat → Nat} {A : Nat → Prop} (hAe : A = fun q => s.heap.size ≤ q) (hK : va_K D vwCl (oh_ty E) s) (hG : oh_G G A s) {xa ma r1 r2 r3 r4 r5 : Nat → Nat} {H : Heap} {locs : List Loc} (hP : va_P D vwCl (lw_x E xa ++ lw_m E ma r1 r2 r3 r4 r5) H) (hD : va_D A (lw_x E xa ++ lw_m E ma r1 r2 r3 r4 r5)) (hS : va_S A s.heap H locs) {ls : Array Slot} (hl : lv_has ls 4 [(3, .int 0), (2, .ref (ma 0)), (1, .ref (xa 0)), (0, .ref b)]) : W p l e room_1 s m #[Value.ref b] below meth c H locs 109 2593 (lw_Z below #[Value.ref b] s) (F0 m 456 ls []) := by
  obtain ⟨hx, hb, hr, hml, hown, hts, hX, hbl, hlocks, hgv⟩ := id C0
  have hown : s.vm.findClass RL = some m.cls := hown
  have htg : ∀ w ∈ oh_t, w.before _ s = true := fun w h => hts w (List.mem_filter.mp h).1
  have hA : ∀ q, s.heap.size ≤ q → A q := fun q h => by rw [hAe]; exact h
  have hbA : ¬ A b := by rw [hAe]; exact Nat.not_le.mpr hbl
  refine lv_aload_n hx hb dL_law_456 rfl (lv_at hl 2 rfl) ?_
  refine lv_aload_n hx hb dL_law_457 rfl (lv_at hl 3 rfl) ?_
  refine lv_iload_n hx hb dL_law_458 rfl (lv_at hl 0 rfl) ?_
  refine lv_iconst (v := 1) hx hb dL_law_459 (by decide) ?_
  refine lv_iadd hx hb dL_law_460 ?_
  refine oh_nrm (v := 1) (by decide) ?_
  refine va_sld hx hb hX hbl hbA hS (show vp_in 1 8 by unfold vp_in; decide) dL_law_461 ?_
  refine oh_nrm (v := xs 1) rfl ?_
  refine lv_aload_n hx hb dL_law_462 rfl (lv_at hl 3 rfl) ?_
  refine lv_iload_n hx hb dL_law_463 rfl (lv_at hl 0 rfl) ?_
  refine lv_iconst (v := 2) hx hb dL_law_464 (by decide) ?_
  refine lv_iadd hx hb dL_law_465 ?_
  refine oh_nrm (v := 2) (by decide) ?_
  refine va_sld hx hb hX hbl hbA hS (show vp_in 2 8 by unfold vp_in; decide) dL_law_466 ?_
  refine oh_nrm (v := xs 2) rfl ?_
  refine oh_lV (wx := lw_x E xa) (wm := lw_m E ma r1 r2 r3 r4 r5) (As := [.int (xs 1), .int (xs 2)]) (rest := []) ⟨hx, hb, hml, hown, htg⟩ (c_X6_show l D E G H.size (xa 0) (xs 1) (xs 2) (xa 1) (xa 9) (xa 17) (xa 24) (xa 28) (xa 30) (xa 33) (xa 34) (xa 2) (xa 3) (xa 4) (xa 5) (xa 6) (xa 7) (xa 8) (xa 25) (xa 26) (xa 27)) (cwV 2 htg (oh_gV q_362 q_363 q_364 q_66 q_365) rfl rfl rfl pdVX6_show ⟨Nat.le_of_ble_eq_true rfl, Nat.le_of_ble_eq_true rfl⟩) hK hP hD hG hS hA [0, 1, 2, 24, 25, 26, 33] rfl (by decide) (show ∀ i ∈ ([0, 1, 2, 24, 25, 26, 33] : List Nat), i < 35 by decide) (va_recv hK hP (ci := 6) (q0 := 0) rfl rfl) rfl hl.1 rfl (Nat.le_of_ble_eq_true rfl) dL_law_467 ⟨(show 109 ≤ 600000 from Nat.le_of_ble_eq_true rfl), (show 2593 ≤ 7302250 from Nat.le_of_ble_eq_true rfl)⟩ (fun r_1 u H locs hw hP hD hS => ?_)
  subst hw
  refine W.widen (k := 109) (n := 2593) (Nat.le_refl _) (Nat.le_refl _) ?_
  refine lv_aload_n hx hb dL_law_470 rfl (lv_at hl 1 rfl) ?_
  refine lv_aload_n hx hb dL_law_471 rfl (lv_at hl 3 rfl) ?_
  refine lv_iload_n hx hb dL_law_472 rfl (lv_at hl 0 rfl) ?_
  refine lv_iconst (v := 1) hx hb dL_law_473 (by decide) ?_
  refine lv_iadd hx hb dL_law_474 ?_
  refine oh_nrm (v := 1) (by decide) ?_
  refine va_sld hx hb hX hbl hbA hS (show vp_in 1 8 by unfold vp_in; decide) dL_law_475 ?_
  refine oh_nrm (v := xs 1) rfl ?_
  refine lv_aload_n hx hb dL_law_476 rfl (lv_at hl 3 rfl) ?_
  refine lv_iload_n hx hb dL_law_477 rfl (lv_at hl 0 rfl) ?_
  refine lv_iconst (v := 2) hx hb dL_law_478 (by decide) ?_
  refine lv_iadd hx hb dL_law_479 ?_
  refine oh_nrm (v := 2) (by decide) ?_
  refine va_sld hx hb hX hbl hbA hS (show vp_in 2 8 by unfold vp_in; decide) dL_law_480 ?_
  refine oh_nrm (v := xs 2) rfl ?_
  refine oh_mV (wr := []) (As := [.int (xs 1), .int (xs 2)]) (rest := [.int (fX6_show (xs 1) (xs 2))]) ⟨hx, hb, hml, hown, htg⟩ (c_X7_show l D E G H.size (ma 0) (xs 1) (xs 2) (ma 1) (ma 2) (ma 3) (ma 4) (ma 5) (ma 6) (ma 7) (ma 8) (ma 9) (ma 10) (ma 11) (ma 12) (ma 13) (ma 14) (ma 15)) (cwV 2 htg (oh_gV q_1094 q_1095 q_1096 q_73 q_1097) rfl rfl rfl pdVX7_show ⟨Nat.le_of_ble_eq_true rfl, Nat.le_of_ble_eq_true rfl⟩) hK hP hD hG hS hA [0, 1, 6, 8] [] rfl rfl (by decide) (by decide) (by decide) (va_recv hK hP (ci := 7) (q0 := 0) rfl rfl) rfl hl.1 rfl (Nat.le_of_ble_eq_true rfl) dL_law_481 ⟨(show 109 ≤ 600000 from Nat.le_of_ble_eq_true rfl), (show 2593 ≤ 7302250 from Nat.le_of_ble_eq_true rfl)⟩ (fun r_2 u H locs hw hP hD hS => ?_)
  subst hw
  refine W.widen (k := 109) (n := 2593) (Nat.le_refl _) (Nat.le_refl _) ?_
  refine lv_icmp_eq (tgt := 2047) hx hb dL_law_484 (by decide) (fun _ => ?_) (fun c => absurd (show (fX6_show (xs 1) (xs 2)) = (fX7_show (xs 1) (xs 2)) from eq_show (xs 1) (xs 2)) c)
  exact lw_end C0 hAe hS (lv_sub hl [0, 3] rfl) (show 109 ≤ 600000 from Nat.le_of_ble_eq_true rfl) (show 2593 ≤ 7302250 from Nat.le_of_ble_eq_true rfl)
set_option maxHeartbeats 4000000 in
set_option maxRecDepth 100000 in
/-- the law at one call of says -/
theorem lc_says {p : Program} {e : Env} {s : State} {m : MethodId} {below : List Frame} {meth : Method} {c : Code} (l : Launch) {b : Nat} {xs : Nat → Int32} (C0 : lw_At p s m meth c b 8 xs) {D : va_G} {E : Nat → ClassId} {G : Nat → Nat} {A : Nat → Prop} (hAe : A = fun q => s.heap.size ≤ q) (hK : va_K D vwCl (oh_ty E) s) (hG : oh_G G A s) {xa ma r1 r2 r3 r4 r5 : Nat → Nat} {H : Heap} {locs : List Loc} (hP : va_P D vwCl (lw_x E xa ++ lw_m E ma r1 r2 r3 r4 r5) H) (hD : va_D A (lw_x E xa ++ lw_m E ma r1 r2 r3 r4 r5)) (hS : va_S A s.heap H locs) {ls : Array Slot} (hl : lv_has ls 4 [(3, .int 0), (2, .ref (ma 0)), (1, .ref (xa 0)), (0, .ref b)]) : W p l e room_1 s m #[Value.ref b] below meth c H locs 109 2593 (lw_Z below #[Value.ref b] s) (F0 m 489 ls []) := by
  obtain ⟨hx, hb, hr, hml, hown, hts, hX, hbl, hlocks, hgv⟩ := id C0
  have hown : s.vm.findClass RL = some m.cls := hown
  have htg : ∀ w ∈ oh_t, w.before _ s = true := fun w h => hts w (List.mem_filter.mp h).1
  have hA : ∀ q, s.heap.size ≤ q → A q := fun q h => by rw [hAe]; exact h
  have hbA : ¬ A b := by rw [hAe]; exact Nat.not_le.mpr hbl
  refine lv_aload_n hx hb dL_law_489 rfl (lv_at hl 2 rfl) ?_
  refine lv_aload_n hx hb dL_law_490 rfl (lv_at hl 3 rfl) ?_
  refine lv_iload_n hx hb dL_law_491 rfl (lv_at hl 0 rfl) ?_
  refine lv_iconst (v := 1) hx hb dL_law_492 (by decide) ?_
  refine lv_iadd hx hb dL_law_493 ?_
  refine oh_nrm (v := 1) (by decide) ?_
  refine va_sld hx hb hX hbl hbA hS (show vp_in 1 8 by unfold vp_in; decide) dL_law_494 ?_
  refine oh_nrm (v := xs 1) rfl ?_
  refine lv_aload_n hx hb dL_law_495 rfl (lv_at hl 3 rfl) ?_
  refine lv_iload_n hx hb dL_law_496 rfl (lv_at hl 0 rfl) ?_
  refine lv_iconst (v := 2) hx hb dL_law_497 (by decide) ?_
  refine lv_iadd hx hb dL_law_498 ?_
  refine oh_nrm (v := 2) (by decide) ?_
  refine va_sld hx hb hX hbl hbA hS (show vp_in 2 8 by unfold vp_in; decide) dL_law_499 ?_
  refine oh_nrm (v := xs 2) rfl ?_
  refine oh_lV (wx := lw_x E xa) (wm := lw_m E ma r1 r2 r3 r4 r5) (As := [.int (xs 1), .int (xs 2)]) (rest := []) ⟨hx, hb, hml, hown, htg⟩ (c_X6_says l D E G H.size (xa 0) (xs 1) (xs 2) (xa 1) (xa 9) (xa 17) (xa 24) (xa 28) (xa 30) (xa 33) (xa 34) (xa 2) (xa 3) (xa 4) (xa 5) (xa 6) (xa 7) (xa 8) (xa 25) (xa 26) (xa 27)) (cwV 2 htg (oh_gV q_374 q_375 q_376 q_66 q_377) rfl rfl rfl pdVX6_says ⟨Nat.le_of_ble_eq_true rfl, Nat.le_of_ble_eq_true rfl⟩) hK hP hD hG hS hA [0, 1, 2, 24, 25, 33] rfl (by decide) (show ∀ i ∈ ([0, 1, 2, 24, 25, 33] : List Nat), i < 35 by decide) (va_recv hK hP (ci := 6) (q0 := 0) rfl rfl) rfl hl.1 rfl (Nat.le_of_ble_eq_true rfl) dL_law_500 ⟨(show 109 ≤ 600000 from Nat.le_of_ble_eq_true rfl), (show 2593 ≤ 7302250 from Nat.le_of_ble_eq_true rfl)⟩ (fun r_1 u H locs hw hP hD hS => ?_)
  subst hw
  refine W.widen (k := 109) (n := 2593) (Nat.le_refl _) (Nat.le_refl _) ?_
  refine lv_aload_n hx hb dL_law_503 rfl (lv_at hl 1 rfl) ?_
  refine lv_aload_n hx hb dL_law_504 rfl (lv_at hl 3 rfl) ?_
  refine lv_iload_n hx hb dL_law_505 rfl (lv_at hl 0 rfl) ?_
  refine lv_iconst (v := 1) hx hb dL_law_506 (by decide) ?_
  refine lv_iadd hx hb dL_law_507 ?_
  refine oh_nrm (v := 1) (by decide) ?_
  refine va_sld hx hb hX hbl hbA hS (show vp_in 1 8 by unfold vp_in; decide) dL_law_508 ?_
  refine oh_nrm (v := xs 1) rfl ?_
  refine lv_aload_n hx hb dL_law_509 rfl (lv_at hl 3 rfl) ?_
  refine lv_iload_n hx hb dL_law_510 rfl (lv_at hl 0 rfl) ?_
  refine lv_iconst (v := 2) hx hb dL_law_511 (by decide) ?_
  refine lv_iadd hx hb dL_law_512 ?_
  refine oh_nrm (v := 2) (by decide) ?_
  refine va_sld hx hb hX hbl hbA hS (show vp_in 2 8 by unfold vp_in; decide) dL_law_513 ?_
  refine oh_nrm (v := xs 2) rfl ?_
  refine oh_mV (wr := []) (As := [.int (xs 1), .int (xs 2)]) (rest := [.int (fX6_says (xs 1) (xs 2))]) ⟨hx, hb, hml, hown, htg⟩ (c_X7_says l D E G H.size (ma 0) (xs 1) (xs 2) (ma 1) (ma 2) (ma 3) (ma 4) (ma 5) (ma 6) (ma 7) (ma 8) (ma 9) (ma 10) (ma 11) (ma 12) (ma 13) (ma 14) (ma 15)) (cwV 2 htg (oh_gV q_1102 q_1103 q_1104 q_73 q_1105) rfl rfl rfl pdVX7_says ⟨Nat.le_of_ble_eq_true rfl, Nat.le_of_ble_eq_true rfl⟩) hK hP hD hG hS hA [0, 1, 8] [] rfl rfl (by decide) (by decide) (by decide) (va_recv hK hP (ci := 7) (q0 := 0) rfl rfl) rfl hl.1 rfl (Nat.le_of_ble_eq_true rfl) dL_law_514 ⟨(show 109 ≤ 600000 from Nat.le_of_ble_eq_true rfl), (show 2593 ≤ 7302250 from Nat.le_of_ble_eq_true rfl)⟩ (fun r_2 u H locs hw hP hD hS => ?_)
  subst hw
  refine W.widen (k := 109) (n := 2593) (Nat.le_refl _) (Nat.le_refl _) ?_
  refine lv_icmp_eq (tgt := 2047) hx hb dL_law_517 (by decide) (fun _ => ?_) (fun c => absurd (show (fX6_says (xs 1) (xs 2)) = (fX7_says (xs 1) (xs 2)) from eq_says (xs 1) (xs 2)) c)
  exact lw_end C0 hAe hS (lv_sub hl [0, 3] rfl) (show 109 ≤ 600000 from Nat.le_of_ble_eq_true rfl) (show 2593 ≤ 7302250 from Nat.le_of_ble_eq_true rfl)
set_option maxHeartbeats 4000000 in
set_option maxRecDepth 100000 in
/-- the law at one call of road -/
theorem lc_road {p : Program} {e : Env} {s : State} {m : MethodId} {below : List Frame} {meth : Method} {c : Code} (l : Launch) {b : Nat} {xs : Nat → Int32} (C0 : lw_At p s m meth c b 8 xs) {D : va_G} {E : Nat → ClassId} {G : Nat → Nat} {A : Nat → Prop} (hAe : A = fun q => s.heap.size ≤ q) (hK : va_K D vwCl (oh_ty E) s) (hG : oh_G G A s) {xa ma r1 r2 r3 r4 r5 : Nat → Nat} {H : Heap} {locs : List Loc} (hP : va_P D vwCl (lw_x E xa ++ lw_m E ma r1 r2 r3 r4 r5) H) (hD : va_D A (lw_x E xa ++ lw_m E ma r1 r2 r3 r4 r5)) (hS : va_S A s.heap H locs) {ls : Array Slot} (hl : lv_has ls 4 [(3, .int 0), (2, .ref (ma 0)), (1, .ref (xa 0)), (0, .ref b)]) : W p l e room_1 s m #[Value.ref b] below meth c H locs 109 2593 (lw_Z below #[Value.ref b] s) (F0 m 522 ls []) := by
  obtain ⟨hx, hb, hr, hml, hown, hts, hX, hbl, hlocks, hgv⟩ := id C0
  have hown : s.vm.findClass RL = some m.cls := hown
  have htg : ∀ w ∈ oh_t, w.before _ s = true := fun w h => hts w (List.mem_filter.mp h).1
  have hA : ∀ q, s.heap.size ≤ q → A q := fun q h => by rw [hAe]; exact h
  have hbA : ¬ A b := by rw [hAe]; exact Nat.not_le.mpr hbl
  refine lv_aload_n hx hb dL_law_522 rfl (lv_at hl 2 rfl) ?_
  refine lv_aload_n hx hb dL_law_523 rfl (lv_at hl 3 rfl) ?_
  refine lv_iload_n hx hb dL_law_524 rfl (lv_at hl 0 rfl) ?_
  refine lv_iconst (v := 1) hx hb dL_law_525 (by decide) ?_
  refine lv_iadd hx hb dL_law_526 ?_
  refine oh_nrm (v := 1) (by decide) ?_
  refine va_sld hx hb hX hbl hbA hS (show vp_in 1 8 by unfold vp_in; decide) dL_law_527 ?_
  refine oh_nrm (v := xs 1) rfl ?_
  refine lv_aload_n hx hb dL_law_528 rfl (lv_at hl 3 rfl) ?_
  refine lv_iload_n hx hb dL_law_529 rfl (lv_at hl 0 rfl) ?_
  refine lv_iconst (v := 2) hx hb dL_law_530 (by decide) ?_
  refine lv_iadd hx hb dL_law_531 ?_
  refine oh_nrm (v := 2) (by decide) ?_
  refine va_sld hx hb hX hbl hbA hS (show vp_in 2 8 by unfold vp_in; decide) dL_law_532 ?_
  refine oh_nrm (v := xs 2) rfl ?_
  refine lv_aload_n hx hb dL_law_533 rfl (lv_at hl 3 rfl) ?_
  refine lv_iload_n hx hb dL_law_534 rfl (lv_at hl 0 rfl) ?_
  refine lv_iconst (v := 3) hx hb dL_law_535 (by decide) ?_
  refine lv_iadd hx hb dL_law_536 ?_
  refine oh_nrm (v := 3) (by decide) ?_
  refine va_sld hx hb hX hbl hbA hS (show vp_in 3 8 by unfold vp_in; decide) dL_law_537 ?_
  refine oh_nrm (v := xs 3) rfl ?_
  refine lv_aload_n hx hb dL_law_538 rfl (lv_at hl 3 rfl) ?_
  refine lv_iload_n hx hb dL_law_539 rfl (lv_at hl 0 rfl) ?_
  refine lv_iconst (v := 4) hx hb dL_law_540 (by decide) ?_
  refine lv_iadd hx hb dL_law_541 ?_
  refine oh_nrm (v := 4) (by decide) ?_
  refine va_sld hx hb hX hbl hbA hS (show vp_in 4 8 by unfold vp_in; decide) dL_law_542 ?_
  refine oh_nrm (v := xs 4) rfl ?_
  refine lv_aload_n hx hb dL_law_543 rfl (lv_at hl 3 rfl) ?_
  refine lv_iload_n hx hb dL_law_544 rfl (lv_at hl 0 rfl) ?_
  refine lv_iconst (v := 5) hx hb dL_law_545 (by decide) ?_
  refine lv_iadd hx hb dL_law_546 ?_
  refine oh_nrm (v := 5) (by decide) ?_
  refine va_sld hx hb hX hbl hbA hS (show vp_in 5 8 by unfold vp_in; decide) dL_law_547 ?_
  refine oh_nrm (v := xs 5) rfl ?_
  refine lv_aload_n hx hb dL_law_548 rfl (lv_at hl 3 rfl) ?_
  refine lv_iload_n hx hb dL_law_549 rfl (lv_at hl 0 rfl) ?_
  refine lv_bipush (v := 6) hx hb dL_law_550 (by decide) ?_
  refine lv_iadd hx hb dL_law_552 ?_
  refine oh_nrm (v := 6) (by decide) ?_
  refine va_sld hx hb hX hbl hbA hS (show vp_in 6 8 by unfold vp_in; decide) dL_law_553 ?_
  refine oh_nrm (v := xs 6) rfl ?_
  refine oh_lV (wx := lw_x E xa) (wm := lw_m E ma r1 r2 r3 r4 r5) (As := [.int (xs 1), .int (xs 2), .int (xs 3), .int (xs 4), .int (xs 5), .int (xs 6)]) (rest := []) ⟨hx, hb, hml, hown, htg⟩ (c_X6_road l D E G H.size (xa 0) (xs 1) (xs 2) (xs 3) (xs 4) (xs 5) (xs 6) (xa 1) (xa 9) (xa 17) (xa 24) (xa 28) (xa 30) (xa 33) (xa 34) (xa 2) (xa 3) (xa 4) (xa 5) (xa 6) (xa 7) (xa 8)) (cwV 6 htg (oh_gV q_409 q_410 q_411 q_66 q_412) rfl rfl rfl pdVX6_road ⟨Nat.le_of_ble_eq_true rfl, Nat.le_of_ble_eq_true rfl⟩) hK hP hD hG hS hA [0, 1, 2, 3, 33] rfl (by decide) (show ∀ i ∈ ([0, 1, 2, 3, 33] : List Nat), i < 35 by decide) (va_recv hK hP (ci := 6) (q0 := 0) rfl rfl) rfl hl.1 rfl (Nat.le_of_ble_eq_true rfl) dL_law_554 ⟨(show 109 ≤ 600000 from Nat.le_of_ble_eq_true rfl), (show 2593 ≤ 7302250 from Nat.le_of_ble_eq_true rfl)⟩ (fun r_1 u H locs hw hP hD hS => ?_)
  subst hw
  refine W.widen (k := 109) (n := 2593) (Nat.le_refl _) (Nat.le_refl _) ?_
  refine lv_aload_n hx hb dL_law_557 rfl (lv_at hl 1 rfl) ?_
  refine lv_aload_n hx hb dL_law_558 rfl (lv_at hl 3 rfl) ?_
  refine lv_iload_n hx hb dL_law_559 rfl (lv_at hl 0 rfl) ?_
  refine lv_iconst (v := 1) hx hb dL_law_560 (by decide) ?_
  refine lv_iadd hx hb dL_law_561 ?_
  refine oh_nrm (v := 1) (by decide) ?_
  refine va_sld hx hb hX hbl hbA hS (show vp_in 1 8 by unfold vp_in; decide) dL_law_562 ?_
  refine oh_nrm (v := xs 1) rfl ?_
  refine lv_aload_n hx hb dL_law_563 rfl (lv_at hl 3 rfl) ?_
  refine lv_iload_n hx hb dL_law_564 rfl (lv_at hl 0 rfl) ?_
  refine lv_iconst (v := 2) hx hb dL_law_565 (by decide) ?_
  refine lv_iadd hx hb dL_law_566 ?_
  refine oh_nrm (v := 2) (by decide) ?_
  refine va_sld hx hb hX hbl hbA hS (show vp_in 2 8 by unfold vp_in; decide) dL_law_567 ?_
  refine oh_nrm (v := xs 2) rfl ?_
  refine lv_aload_n hx hb dL_law_568 rfl (lv_at hl 3 rfl) ?_
  refine lv_iload_n hx hb dL_law_569 rfl (lv_at hl 0 rfl) ?_
  refine lv_iconst (v := 3) hx hb dL_law_570 (by decide) ?_
  refine lv_iadd hx hb dL_law_571 ?_
  refine oh_nrm (v := 3) (by decide) ?_
  refine va_sld hx hb hX hbl hbA hS (show vp_in 3 8 by unfold vp_in; decide) dL_law_572 ?_
  refine oh_nrm (v := xs 3) rfl ?_
  refine lv_aload_n hx hb dL_law_573 rfl (lv_at hl 3 rfl) ?_
  refine lv_iload_n hx hb dL_law_574 rfl (lv_at hl 0 rfl) ?_
  refine lv_iconst (v := 4) hx hb dL_law_575 (by decide) ?_
  refine lv_iadd hx hb dL_law_576 ?_
  refine oh_nrm (v := 4) (by decide) ?_
  refine va_sld hx hb hX hbl hbA hS (show vp_in 4 8 by unfold vp_in; decide) dL_law_577 ?_
  refine oh_nrm (v := xs 4) rfl ?_
  refine lv_aload_n hx hb dL_law_578 rfl (lv_at hl 3 rfl) ?_
  refine lv_iload_n hx hb dL_law_579 rfl (lv_at hl 0 rfl) ?_
  refine lv_iconst (v := 5) hx hb dL_law_580 (by decide) ?_
  refine lv_iadd hx hb dL_law_581 ?_
  refine oh_nrm (v := 5) (by decide) ?_
  refine va_sld hx hb hX hbl hbA hS (show vp_in 5 8 by unfold vp_in; decide) dL_law_582 ?_
  refine oh_nrm (v := xs 5) rfl ?_
  refine lv_aload_n hx hb dL_law_583 rfl (lv_at hl 3 rfl) ?_
  refine lv_iload_n hx hb dL_law_584 rfl (lv_at hl 0 rfl) ?_
  refine lv_bipush (v := 6) hx hb dL_law_585 (by decide) ?_
  refine lv_iadd hx hb dL_law_587 ?_
  refine oh_nrm (v := 6) (by decide) ?_
  refine va_sld hx hb hX hbl hbA hS (show vp_in 6 8 by unfold vp_in; decide) dL_law_588 ?_
  refine oh_nrm (v := xs 6) rfl ?_
  refine oh_mV (wr := []) (As := [.int (xs 1), .int (xs 2), .int (xs 3), .int (xs 4), .int (xs 5), .int (xs 6)]) (rest := [.int (fX6_road (xs 1) (xs 2) (xs 3) (xs 4) (xs 5) (xs 6))]) ⟨hx, hb, hml, hown, htg⟩ (c_X7_road l D E G H.size (ma 0) (xs 1) (xs 2) (xs 3) (xs 4) (xs 5) (xs 6) (ma 1) (ma 2) (ma 3) (ma 4) (ma 5) (ma 6) (ma 7) (ma 8) (ma 9) (ma 10) (ma 11) (ma 12) (ma 13) (ma 14) (ma 15) (fun i => if i < 24 then some (r2 i) else none) (r2 0) (if_pos (by decide))) (cwV 6 htg (oh_gV q_1126 q_1127 q_1128 q_73 q_1129) rfl rfl rfl pdVX7_road ⟨Nat.le_of_ble_eq_true rfl, Nat.le_of_ble_eq_true rfl⟩) hK hP hD hG hS hA [0, 9, 24, 8] [] rfl rfl (by decide) (by decide) (by decide) (va_recv hK hP (ci := 7) (q0 := 0) rfl rfl) rfl hl.1 rfl (Nat.le_of_ble_eq_true rfl) dL_law_589 ⟨(show 109 ≤ 600000 from Nat.le_of_ble_eq_true rfl), (show 2593 ≤ 7302250 from Nat.le_of_ble_eq_true rfl)⟩ (fun r_2 u H locs hw hP hD hS => ?_)
  subst hw
  refine W.widen (k := 109) (n := 2593) (Nat.le_refl _) (Nat.le_refl _) ?_
  refine lv_icmp_eq (tgt := 2047) hx hb dL_law_592 (by decide) (fun _ => ?_) (fun c => absurd (show (fX6_road (xs 1) (xs 2) (xs 3) (xs 4) (xs 5) (xs 6)) = (fX7_road (xs 1) (xs 2) (xs 3) (xs 4) (xs 5) (xs 6)) from eq_road (xs 1) (xs 2) (xs 3) (xs 4) (xs 5) (xs 6)) c)
  exact lw_end C0 hAe hS (lv_sub hl [0, 3] rfl) (show 109 ≤ 600000 from Nat.le_of_ble_eq_true rfl) (show 2593 ≤ 7302250 from Nat.le_of_ble_eq_true rfl)
set_option maxHeartbeats 4000000 in
set_option maxRecDepth 100000 in
/-- the law at one call of bridge -/
theorem lc_bridge {p : Program} {e : Env} {s : State} {m : MethodId} {below : List Frame} {meth : Method} {c : Code} (l : Launch) {b : Nat} {xs : Nat → Int32} (C0 : lw_At p s m meth c b 8 xs) {D : va_G} {E : Nat → ClassId} {G : Nat → Nat} {A : Nat → Prop} (hAe : A = fun q => s.heap.size ≤ q) (hK : va_K D vwCl (oh_ty E) s) (hG : oh_G G A s) {xa ma r1 r2 r3 r4 r5 : Nat → Nat} {H : Heap} {locs : List Loc} (hP : va_P D vwCl (lw_x E xa ++ lw_m E ma r1 r2 r3 r4 r5) H) (hD : va_D A (lw_x E xa ++ lw_m E ma r1 r2 r3 r4 r5)) (hS : va_S A s.heap H locs) {ls : Array Slot} (hl : lv_has ls 4 [(3, .int 0), (2, .ref (ma 0)), (1, .ref (xa 0)), (0, .ref b)]) : W p l e room_1 s m #[Value.ref b] below meth c H locs 109 2593 (lw_Z below #[Value.ref b] s) (F0 m 597 ls []) := by
  obtain ⟨hx, hb, hr, hml, hown, hts, hX, hbl, hlocks, hgv⟩ := id C0
  have hown : s.vm.findClass RL = some m.cls := hown
  have htg : ∀ w ∈ oh_t, w.before _ s = true := fun w h => hts w (List.mem_filter.mp h).1
  have hA : ∀ q, s.heap.size ≤ q → A q := fun q h => by rw [hAe]; exact h
  have hbA : ¬ A b := by rw [hAe]; exact Nat.not_le.mpr hbl
  refine lv_aload_n hx hb dL_law_597 rfl (lv_at hl 2 rfl) ?_
  refine lv_aload_n hx hb dL_law_598 rfl (lv_at hl 3 rfl) ?_
  refine lv_iload_n hx hb dL_law_599 rfl (lv_at hl 0 rfl) ?_
  refine lv_iconst (v := 1) hx hb dL_law_600 (by decide) ?_
  refine lv_iadd hx hb dL_law_601 ?_
  refine oh_nrm (v := 1) (by decide) ?_
  refine va_sld hx hb hX hbl hbA hS (show vp_in 1 8 by unfold vp_in; decide) dL_law_602 ?_
  refine oh_nrm (v := xs 1) rfl ?_
  refine lv_aload_n hx hb dL_law_603 rfl (lv_at hl 3 rfl) ?_
  refine lv_iload_n hx hb dL_law_604 rfl (lv_at hl 0 rfl) ?_
  refine lv_iconst (v := 2) hx hb dL_law_605 (by decide) ?_
  refine lv_iadd hx hb dL_law_606 ?_
  refine oh_nrm (v := 2) (by decide) ?_
  refine va_sld hx hb hX hbl hbA hS (show vp_in 2 8 by unfold vp_in; decide) dL_law_607 ?_
  refine oh_nrm (v := xs 2) rfl ?_
  refine lv_aload_n hx hb dL_law_608 rfl (lv_at hl 3 rfl) ?_
  refine lv_iload_n hx hb dL_law_609 rfl (lv_at hl 0 rfl) ?_
  refine lv_iconst (v := 3) hx hb dL_law_610 (by decide) ?_
  refine lv_iadd hx hb dL_law_611 ?_
  refine oh_nrm (v := 3) (by decide) ?_
  refine va_sld hx hb hX hbl hbA hS (show vp_in 3 8 by unfold vp_in; decide) dL_law_612 ?_
  refine oh_nrm (v := xs 3) rfl ?_
  refine lv_aload_n hx hb dL_law_613 rfl (lv_at hl 3 rfl) ?_
  refine lv_iload_n hx hb dL_law_614 rfl (lv_at hl 0 rfl) ?_
  refine lv_iconst (v := 4) hx hb dL_law_615 (by decide) ?_
  refine lv_iadd hx hb dL_law_616 ?_
  refine oh_nrm (v := 4) (by decide) ?_
  refine va_sld hx hb hX hbl hbA hS (show vp_in 4 8 by unfold vp_in; decide) dL_law_617 ?_
  refine oh_nrm (v := xs 4) rfl ?_
  refine lv_aload_n hx hb dL_law_618 rfl (lv_at hl 3 rfl) ?_
  refine lv_iload_n hx hb dL_law_619 rfl (lv_at hl 0 rfl) ?_
  refine lv_iconst (v := 5) hx hb dL_law_620 (by decide) ?_
  refine lv_iadd hx hb dL_law_621 ?_
  refine oh_nrm (v := 5) (by decide) ?_
  refine va_sld hx hb hX hbl hbA hS (show vp_in 5 8 by unfold vp_in; decide) dL_law_622 ?_
  refine oh_nrm (v := xs 5) rfl ?_
  refine oh_lV (wx := lw_x E xa) (wm := lw_m E ma r1 r2 r3 r4 r5) (As := [.int (xs 1), .int (xs 2), .int (xs 3), .int (xs 4), .int (xs 5)]) (rest := []) ⟨hx, hb, hml, hown, htg⟩ (c_X6_bridge l D E G H.size (xa 0) (xs 1) (xs 2) (xs 3) (xs 4) (xs 5) (xa 1) (xa 9) (xa 17) (xa 24) (xa 28) (xa 30) (xa 33) (xa 34) (xa 2) (xa 3) (xa 4) (xa 5) (xa 6) (xa 7) (xa 8)) (cwV 5 htg (oh_gV q_424 q_425 q_426 q_66 q_427) rfl rfl rfl pdVX6_bridge ⟨Nat.le_of_ble_eq_true rfl, Nat.le_of_ble_eq_true rfl⟩) hK hP hD hG hS hA [0, 1, 2, 33] rfl (by decide) (show ∀ i ∈ ([0, 1, 2, 33] : List Nat), i < 35 by decide) (va_recv hK hP (ci := 6) (q0 := 0) rfl rfl) rfl hl.1 rfl (Nat.le_of_ble_eq_true rfl) dL_law_623 ⟨(show 109 ≤ 600000 from Nat.le_of_ble_eq_true rfl), (show 2593 ≤ 7302250 from Nat.le_of_ble_eq_true rfl)⟩ (fun r_1 u H locs hw hP hD hS => ?_)
  subst hw
  refine W.widen (k := 109) (n := 2593) (Nat.le_refl _) (Nat.le_refl _) ?_
  refine lv_aload_n hx hb dL_law_626 rfl (lv_at hl 1 rfl) ?_
  refine lv_aload_n hx hb dL_law_627 rfl (lv_at hl 3 rfl) ?_
  refine lv_iload_n hx hb dL_law_628 rfl (lv_at hl 0 rfl) ?_
  refine lv_iconst (v := 1) hx hb dL_law_629 (by decide) ?_
  refine lv_iadd hx hb dL_law_630 ?_
  refine oh_nrm (v := 1) (by decide) ?_
  refine va_sld hx hb hX hbl hbA hS (show vp_in 1 8 by unfold vp_in; decide) dL_law_631 ?_
  refine oh_nrm (v := xs 1) rfl ?_
  refine lv_aload_n hx hb dL_law_632 rfl (lv_at hl 3 rfl) ?_
  refine lv_iload_n hx hb dL_law_633 rfl (lv_at hl 0 rfl) ?_
  refine lv_iconst (v := 2) hx hb dL_law_634 (by decide) ?_
  refine lv_iadd hx hb dL_law_635 ?_
  refine oh_nrm (v := 2) (by decide) ?_
  refine va_sld hx hb hX hbl hbA hS (show vp_in 2 8 by unfold vp_in; decide) dL_law_636 ?_
  refine oh_nrm (v := xs 2) rfl ?_
  refine lv_aload_n hx hb dL_law_637 rfl (lv_at hl 3 rfl) ?_
  refine lv_iload_n hx hb dL_law_638 rfl (lv_at hl 0 rfl) ?_
  refine lv_iconst (v := 3) hx hb dL_law_639 (by decide) ?_
  refine lv_iadd hx hb dL_law_640 ?_
  refine oh_nrm (v := 3) (by decide) ?_
  refine va_sld hx hb hX hbl hbA hS (show vp_in 3 8 by unfold vp_in; decide) dL_law_641 ?_
  refine oh_nrm (v := xs 3) rfl ?_
  refine lv_aload_n hx hb dL_law_642 rfl (lv_at hl 3 rfl) ?_
  refine lv_iload_n hx hb dL_law_643 rfl (lv_at hl 0 rfl) ?_
  refine lv_iconst (v := 4) hx hb dL_law_644 (by decide) ?_
  refine lv_iadd hx hb dL_law_645 ?_
  refine oh_nrm (v := 4) (by decide) ?_
  refine va_sld hx hb hX hbl hbA hS (show vp_in 4 8 by unfold vp_in; decide) dL_law_646 ?_
  refine oh_nrm (v := xs 4) rfl ?_
  refine lv_aload_n hx hb dL_law_647 rfl (lv_at hl 3 rfl) ?_
  refine lv_iload_n hx hb dL_law_648 rfl (lv_at hl 0 rfl) ?_
  refine lv_iconst (v := 5) hx hb dL_law_649 (by decide) ?_
  refine lv_iadd hx hb dL_law_650 ?_
  refine oh_nrm (v := 5) (by decide) ?_
  refine va_sld hx hb hX hbl hbA hS (show vp_in 5 8 by unfold vp_in; decide) dL_law_651 ?_
  refine oh_nrm (v := xs 5) rfl ?_
  refine oh_mV (wr := []) (As := [.int (xs 1), .int (xs 2), .int (xs 3), .int (xs 4), .int (xs 5)]) (rest := [.int (-2)]) ⟨hx, hb, hml, hown, htg⟩ (c_X7_bridge l D E G H.size (ma 0) (xs 1) (xs 2) (xs 3) (xs 4) (xs 5) (ma 1) (ma 2) (ma 3) (ma 4) (ma 5) (ma 6) (ma 7) (ma 8) (ma 9) (ma 10) (ma 11) (ma 12) (ma 13) (ma 14) (ma 15)) (cwV 5 htg (oh_gV q_1141 q_1142 q_1143 q_73 q_1144) rfl rfl rfl pdVX7_bridge ⟨Nat.le_of_ble_eq_true rfl, Nat.le_of_ble_eq_true rfl⟩) hK hP hD hG hS hA [0, 8] [] rfl rfl (by decide) (by decide) (by decide) (va_recv hK hP (ci := 7) (q0 := 0) rfl rfl) rfl hl.1 rfl (Nat.le_of_ble_eq_true rfl) dL_law_652 ⟨(show 109 ≤ 600000 from Nat.le_of_ble_eq_true rfl), (show 2593 ≤ 7302250 from Nat.le_of_ble_eq_true rfl)⟩ (fun r_2 u H locs hw hP hD hS => ?_)
  subst hw
  refine W.widen (k := 109) (n := 2593) (Nat.le_refl _) (Nat.le_refl _) ?_
  refine lv_icmp_eq (tgt := 2047) hx hb dL_law_655 (by decide) (fun _ => ?_) (fun c => absurd (show (-2 : Int32) = (-2) from by decide) c)
  exact lw_end C0 hAe hS (lv_sub hl [0, 3] rfl) (show 109 ≤ 600000 from Nat.le_of_ble_eq_true rfl) (show 2593 ≤ 7302250 from Nat.le_of_ble_eq_true rfl)
set_option maxHeartbeats 4000000 in
set_option maxRecDepth 100000 in
/-- the law at one call of prop -/
theorem lc_prop {p : Program} {e : Env} {s : State} {m : MethodId} {below : List Frame} {meth : Method} {c : Code} (l : Launch) {b : Nat} {xs : Nat → Int32} (C0 : lw_At p s m meth c b 8 xs) {D : va_G} {E : Nat → ClassId} {G : Nat → Nat} {A : Nat → Prop} (hAe : A = fun q => s.heap.size ≤ q) (hK : va_K D vwCl (oh_ty E) s) (hG : oh_G G A s) {xa ma r1 r2 r3 r4 r5 : Nat → Nat} {H : Heap} {locs : List Loc} (hP : va_P D vwCl (lw_x E xa ++ lw_m E ma r1 r2 r3 r4 r5) H) (hD : va_D A (lw_x E xa ++ lw_m E ma r1 r2 r3 r4 r5)) (hS : va_S A s.heap H locs) {ls : Array Slot} (hl : lv_has ls 4 [(3, .int 0), (2, .ref (ma 0)), (1, .ref (xa 0)), (0, .ref b)]) : W p l e room_1 s m #[Value.ref b] below meth c H locs 109 2593 (lw_Z below #[Value.ref b] s) (F0 m 660 ls []) := by
  obtain ⟨hx, hb, hr, hml, hown, hts, hX, hbl, hlocks, hgv⟩ := id C0
  have hown : s.vm.findClass RL = some m.cls := hown
  have htg : ∀ w ∈ oh_t, w.before _ s = true := fun w h => hts w (List.mem_filter.mp h).1
  have hA : ∀ q, s.heap.size ≤ q → A q := fun q h => by rw [hAe]; exact h
  have hbA : ¬ A b := by rw [hAe]; exact Nat.not_le.mpr hbl
  refine lv_aload_n hx hb dL_law_660 rfl (lv_at hl 2 rfl) ?_
  refine lv_aload_n hx hb dL_law_661 rfl (lv_at hl 3 rfl) ?_
  refine lv_iload_n hx hb dL_law_662 rfl (lv_at hl 0 rfl) ?_
  refine lv_iconst (v := 1) hx hb dL_law_663 (by decide) ?_
  refine lv_iadd hx hb dL_law_664 ?_
  refine oh_nrm (v := 1) (by decide) ?_
  refine va_sld hx hb hX hbl hbA hS (show vp_in 1 8 by unfold vp_in; decide) dL_law_665 ?_
  refine oh_nrm (v := xs 1) rfl ?_
  refine lv_aload_n hx hb dL_law_666 rfl (lv_at hl 3 rfl) ?_
  refine lv_iload_n hx hb dL_law_667 rfl (lv_at hl 0 rfl) ?_
  refine lv_iconst (v := 2) hx hb dL_law_668 (by decide) ?_
  refine lv_iadd hx hb dL_law_669 ?_
  refine oh_nrm (v := 2) (by decide) ?_
  refine va_sld hx hb hX hbl hbA hS (show vp_in 2 8 by unfold vp_in; decide) dL_law_670 ?_
  refine oh_nrm (v := xs 2) rfl ?_
  refine lv_aload_n hx hb dL_law_671 rfl (lv_at hl 3 rfl) ?_
  refine lv_iload_n hx hb dL_law_672 rfl (lv_at hl 0 rfl) ?_
  refine lv_iconst (v := 3) hx hb dL_law_673 (by decide) ?_
  refine lv_iadd hx hb dL_law_674 ?_
  refine oh_nrm (v := 3) (by decide) ?_
  refine va_sld hx hb hX hbl hbA hS (show vp_in 3 8 by unfold vp_in; decide) dL_law_675 ?_
  refine oh_nrm (v := xs 3) rfl ?_
  refine oh_lV (wx := lw_x E xa) (wm := lw_m E ma r1 r2 r3 r4 r5) (As := [.int (xs 1), .int (xs 2), .int (xs 3)]) (rest := []) ⟨hx, hb, hml, hown, htg⟩ (c_X6_prop l D E G H.size (xa 0) (xs 1) (xs 2) (xs 3) (xa 1) (xa 9) (xa 17) (xa 24) (xa 28) (xa 30) (xa 33) (xa 34) (xa 2) (xa 3) (xa 4) (xa 5) (xa 6) (xa 7) (xa 8)) (cwV 3 htg (oh_gV q_436 q_437 q_438 q_66 q_439) rfl rfl rfl pdVX6_prop ⟨Nat.le_of_ble_eq_true rfl, Nat.le_of_ble_eq_true rfl⟩) hK hP hD hG hS hA [0, 1, 2, 33] rfl (by decide) (show ∀ i ∈ ([0, 1, 2, 33] : List Nat), i < 35 by decide) (va_recv hK hP (ci := 6) (q0 := 0) rfl rfl) rfl hl.1 rfl (Nat.le_of_ble_eq_true rfl) dL_law_676 ⟨(show 109 ≤ 600000 from Nat.le_of_ble_eq_true rfl), (show 2593 ≤ 7302250 from Nat.le_of_ble_eq_true rfl)⟩ (fun r_1 u H locs hw hP hD hS => ?_)
  subst hw
  refine W.widen (k := 109) (n := 2593) (Nat.le_refl _) (Nat.le_refl _) ?_
  refine lv_aload_n hx hb dL_law_679 rfl (lv_at hl 1 rfl) ?_
  refine lv_aload_n hx hb dL_law_680 rfl (lv_at hl 3 rfl) ?_
  refine lv_iload_n hx hb dL_law_681 rfl (lv_at hl 0 rfl) ?_
  refine lv_iconst (v := 1) hx hb dL_law_682 (by decide) ?_
  refine lv_iadd hx hb dL_law_683 ?_
  refine oh_nrm (v := 1) (by decide) ?_
  refine va_sld hx hb hX hbl hbA hS (show vp_in 1 8 by unfold vp_in; decide) dL_law_684 ?_
  refine oh_nrm (v := xs 1) rfl ?_
  refine lv_aload_n hx hb dL_law_685 rfl (lv_at hl 3 rfl) ?_
  refine lv_iload_n hx hb dL_law_686 rfl (lv_at hl 0 rfl) ?_
  refine lv_iconst (v := 2) hx hb dL_law_687 (by decide) ?_
  refine lv_iadd hx hb dL_law_688 ?_
  refine oh_nrm (v := 2) (by decide) ?_
  refine va_sld hx hb hX hbl hbA hS (show vp_in 2 8 by unfold vp_in; decide) dL_law_689 ?_
  refine oh_nrm (v := xs 2) rfl ?_
  refine lv_aload_n hx hb dL_law_690 rfl (lv_at hl 3 rfl) ?_
  refine lv_iload_n hx hb dL_law_691 rfl (lv_at hl 0 rfl) ?_
  refine lv_iconst (v := 3) hx hb dL_law_692 (by decide) ?_
  refine lv_iadd hx hb dL_law_693 ?_
  refine oh_nrm (v := 3) (by decide) ?_
  refine va_sld hx hb hX hbl hbA hS (show vp_in 3 8 by unfold vp_in; decide) dL_law_694 ?_
  refine oh_nrm (v := xs 3) rfl ?_
  refine oh_mV (wr := []) (As := [.int (xs 1), .int (xs 2), .int (xs 3)]) (rest := [.int (-2)]) ⟨hx, hb, hml, hown, htg⟩ (c_X7_prop l D E G H.size (ma 0) (xs 1) (xs 2) (xs 3) (ma 1) (ma 2) (ma 3) (ma 4) (ma 5) (ma 6) (ma 7) (ma 8) (ma 9) (ma 10) (ma 11) (ma 12) (ma 13) (ma 14) (ma 15)) (cwV 3 htg (oh_gV q_1154 q_1155 q_1156 q_73 q_1157) rfl rfl rfl pdVX7_prop ⟨Nat.le_of_ble_eq_true rfl, Nat.le_of_ble_eq_true rfl⟩) hK hP hD hG hS hA [0, 8] [] rfl rfl (by decide) (by decide) (by decide) (va_recv hK hP (ci := 7) (q0 := 0) rfl rfl) rfl hl.1 rfl (Nat.le_of_ble_eq_true rfl) dL_law_695 ⟨(show 109 ≤ 600000 from Nat.le_of_ble_eq_true rfl), (show 2593 ≤ 7302250 from Nat.le_of_ble_eq_true rfl)⟩ (fun r_2 u H locs hw hP hD hS => ?_)
  subst hw
  refine W.widen (k := 109) (n := 2593) (Nat.le_refl _) (Nat.le_refl _) ?_
  refine lv_icmp_eq (tgt := 2047) hx hb dL_law_698 (by decide) (fun _ => ?_) (fun c => absurd (show (-2 : Int32) = (-2) from by decide) c)
  exact lw_end C0 hAe hS (lv_sub hl [0, 3] rfl) (show 109 ≤ 600000 from Nat.le_of_ble_eq_true rfl) (show 2593 ≤ 7302250 from Nat.le_of_ble_eq_true rfl)
set_option maxHeartbeats 4000000 in
set_option maxRecDepth 100000 in
/-- the law at one call of waggon -/
theorem lc_waggon {p : Program} {e : Env} {s : State} {m : MethodId} {below : List Frame} {meth : Method} {c : Code} (l : Launch) {b : Nat} {xs : Nat → Int32} (C0 : lw_At p s m meth c b 8 xs) {D : va_G} {E : Nat → ClassId} {G : Nat → Nat} {A : Nat → Prop} (hAe : A = fun q => s.heap.size ≤ q) (hK : va_K D vwCl (oh_ty E) s) (hG : oh_G G A s) {xa ma r1 r2 r3 r4 r5 : Nat → Nat} {H : Heap} {locs : List Loc} (hP : va_P D vwCl (lw_x E xa ++ lw_m E ma r1 r2 r3 r4 r5) H) (hD : va_D A (lw_x E xa ++ lw_m E ma r1 r2 r3 r4 r5)) (hS : va_S A s.heap H locs) {ls : Array Slot} (hl : lv_has ls 4 [(3, .int 0), (2, .ref (ma 0)), (1, .ref (xa 0)), (0, .ref b)]) : W p l e room_1 s m #[Value.ref b] below meth c H locs 109 2593 (lw_Z below #[Value.ref b] s) (F0 m 703 ls []) := by
  obtain ⟨hx, hb, hr, hml, hown, hts, hX, hbl, hlocks, hgv⟩ := id C0
  have hown : s.vm.findClass RL = some m.cls := hown
  have htg : ∀ w ∈ oh_t, w.before _ s = true := fun w h => hts w (List.mem_filter.mp h).1
  have hA : ∀ q, s.heap.size ≤ q → A q := fun q h => by rw [hAe]; exact h
  have hbA : ¬ A b := by rw [hAe]; exact Nat.not_le.mpr hbl
  refine lv_aload_n hx hb dL_law_703 rfl (lv_at hl 2 rfl) ?_
  refine lv_aload_n hx hb dL_law_704 rfl (lv_at hl 3 rfl) ?_
  refine lv_iload_n hx hb dL_law_705 rfl (lv_at hl 0 rfl) ?_
  refine lv_iconst (v := 1) hx hb dL_law_706 (by decide) ?_
  refine lv_iadd hx hb dL_law_707 ?_
  refine oh_nrm (v := 1) (by decide) ?_
  refine va_sld hx hb hX hbl hbA hS (show vp_in 1 8 by unfold vp_in; decide) dL_law_708 ?_
  refine oh_nrm (v := xs 1) rfl ?_
  refine lv_aload_n hx hb dL_law_709 rfl (lv_at hl 3 rfl) ?_
  refine lv_iload_n hx hb dL_law_710 rfl (lv_at hl 0 rfl) ?_
  refine lv_iconst (v := 2) hx hb dL_law_711 (by decide) ?_
  refine lv_iadd hx hb dL_law_712 ?_
  refine oh_nrm (v := 2) (by decide) ?_
  refine va_sld hx hb hX hbl hbA hS (show vp_in 2 8 by unfold vp_in; decide) dL_law_713 ?_
  refine oh_nrm (v := xs 2) rfl ?_
  refine lv_aload_n hx hb dL_law_714 rfl (lv_at hl 3 rfl) ?_
  refine lv_iload_n hx hb dL_law_715 rfl (lv_at hl 0 rfl) ?_
  refine lv_iconst (v := 3) hx hb dL_law_716 (by decide) ?_
  refine lv_iadd hx hb dL_law_717 ?_
  refine oh_nrm (v := 3) (by decide) ?_
  refine va_sld hx hb hX hbl hbA hS (show vp_in 3 8 by unfold vp_in; decide) dL_law_718 ?_
  refine oh_nrm (v := xs 3) rfl ?_
  refine oh_lV (wx := lw_x E xa) (wm := lw_m E ma r1 r2 r3 r4 r5) (As := [.int (xs 1), .int (xs 2), .int (xs 3)]) (rest := []) ⟨hx, hb, hml, hown, htg⟩ (c_X6_waggon l D E G H.size (xa 0) (xs 1) (xs 2) (xs 3) (xa 1) (xa 9) (xa 17) (xa 24) (xa 28) (xa 30) (xa 33) (xa 34) (xa 2) (xa 3) (xa 4) (xa 5) (xa 6) (xa 7) (xa 8)) (cwV 3 htg (oh_gV q_448 q_449 q_450 q_66 q_451) rfl rfl rfl pdVX6_waggon ⟨Nat.le_of_ble_eq_true rfl, Nat.le_of_ble_eq_true rfl⟩) hK hP hD hG hS hA [0, 1, 2, 5, 33] rfl (by decide) (show ∀ i ∈ ([0, 1, 2, 5, 33] : List Nat), i < 35 by decide) (va_recv hK hP (ci := 6) (q0 := 0) rfl rfl) rfl hl.1 rfl (Nat.le_of_ble_eq_true rfl) dL_law_719 ⟨(show 109 ≤ 600000 from Nat.le_of_ble_eq_true rfl), (show 2593 ≤ 7302250 from Nat.le_of_ble_eq_true rfl)⟩ (fun r_1 u H locs hw hP hD hS => ?_)
  subst hw
  refine W.widen (k := 109) (n := 2593) (Nat.le_refl _) (Nat.le_refl _) ?_
  refine lv_aload_n hx hb dL_law_722 rfl (lv_at hl 1 rfl) ?_
  refine lv_aload_n hx hb dL_law_723 rfl (lv_at hl 3 rfl) ?_
  refine lv_iload_n hx hb dL_law_724 rfl (lv_at hl 0 rfl) ?_
  refine lv_iconst (v := 1) hx hb dL_law_725 (by decide) ?_
  refine lv_iadd hx hb dL_law_726 ?_
  refine oh_nrm (v := 1) (by decide) ?_
  refine va_sld hx hb hX hbl hbA hS (show vp_in 1 8 by unfold vp_in; decide) dL_law_727 ?_
  refine oh_nrm (v := xs 1) rfl ?_
  refine lv_aload_n hx hb dL_law_728 rfl (lv_at hl 3 rfl) ?_
  refine lv_iload_n hx hb dL_law_729 rfl (lv_at hl 0 rfl) ?_
  refine lv_iconst (v := 2) hx hb dL_law_730 (by decide) ?_
  refine lv_iadd hx hb dL_law_731 ?_
  refine oh_nrm (v := 2) (by decide) ?_
  refine va_sld hx hb hX hbl hbA hS (show vp_in 2 8 by unfold vp_in; decide) dL_law_732 ?_
  refine oh_nrm (v := xs 2) rfl ?_
  refine lv_aload_n hx hb dL_law_733 rfl (lv_at hl 3 rfl) ?_
  refine lv_iload_n hx hb dL_law_734 rfl (lv_at hl 0 rfl) ?_
  refine lv_iconst (v := 3) hx hb dL_law_735 (by decide) ?_
  refine lv_iadd hx hb dL_law_736 ?_
  refine oh_nrm (v := 3) (by decide) ?_
  refine va_sld hx hb hX hbl hbA hS (show vp_in 3 8 by unfold vp_in; decide) dL_law_737 ?_
  refine oh_nrm (v := xs 3) rfl ?_
  refine oh_mV (wr := []) (As := [.int (xs 1), .int (xs 2), .int (xs 3)]) (rest := [.int (fX6_waggon (xs 1) (xs 2) (xs 3))]) ⟨hx, hb, hml, hown, htg⟩ (c_X7_waggon l D E G H.size (ma 0) (xs 1) (xs 2) (xs 3) (ma 1) (ma 2) (ma 3) (ma 4) (ma 5) (ma 6) (ma 7) (ma 8) (ma 9) (ma 10) (ma 11) (ma 12) (ma 13) (ma 14) (ma 15) (fun i => if i < 5 then some (r4 i) else none) (r4 0) (if_pos (by decide))) (cwV 3 htg (oh_gV q_1158 q_1159 q_1160 q_73 q_1161) rfl rfl rfl pdVX7_waggon ⟨Nat.le_of_ble_eq_true rfl, Nat.le_of_ble_eq_true rfl⟩) hK hP hD hG hS hA [0, 11, 64, 8] [] rfl rfl (by decide) (by decide) (by decide) (va_recv hK hP (ci := 7) (q0 := 0) rfl rfl) rfl hl.1 rfl (Nat.le_of_ble_eq_true rfl) dL_law_738 ⟨(show 109 ≤ 600000 from Nat.le_of_ble_eq_true rfl), (show 2593 ≤ 7302250 from Nat.le_of_ble_eq_true rfl)⟩ (fun r_2 u H locs hw hP hD hS => ?_)
  subst hw
  refine W.widen (k := 109) (n := 2593) (Nat.le_refl _) (Nat.le_refl _) ?_
  refine lv_icmp_eq (tgt := 2047) hx hb dL_law_741 (by decide) (fun _ => ?_) (fun c => absurd (show (fX6_waggon (xs 1) (xs 2) (xs 3)) = (fX7_waggon (xs 1) (xs 2) (xs 3)) from eq_waggon (xs 1) (xs 2) (xs 3)) c)
  exact lw_end C0 hAe hS (lv_sub hl [0, 3] rfl) (show 109 ≤ 600000 from Nat.le_of_ble_eq_true rfl) (show 2593 ≤ 7302250 from Nat.le_of_ble_eq_true rfl)
set_option maxHeartbeats 4000000 in
set_option maxRecDepth 100000 in
/-- the law at one call of part -/
theorem lc_part {p : Program} {e : Env} {s : State} {m : MethodId} {below : List Frame} {meth : Method} {c : Code} (l : Launch) {b : Nat} {xs : Nat → Int32} (C0 : lw_At p s m meth c b 8 xs) {D : va_G} {E : Nat → ClassId} {G : Nat → Nat} {A : Nat → Prop} (hAe : A = fun q => s.heap.size ≤ q) (hK : va_K D vwCl (oh_ty E) s) (hG : oh_G G A s) {xa ma r1 r2 r3 r4 r5 : Nat → Nat} {H : Heap} {locs : List Loc} (hP : va_P D vwCl (lw_x E xa ++ lw_m E ma r1 r2 r3 r4 r5) H) (hD : va_D A (lw_x E xa ++ lw_m E ma r1 r2 r3 r4 r5)) (hS : va_S A s.heap H locs) {ls : Array Slot} (hl : lv_has ls 4 [(3, .int 0), (2, .ref (ma 0)), (1, .ref (xa 0)), (0, .ref b)]) : W p l e room_1 s m #[Value.ref b] below meth c H locs 109 2593 (lw_Z below #[Value.ref b] s) (F0 m 746 ls []) := by
  obtain ⟨hx, hb, hr, hml, hown, hts, hX, hbl, hlocks, hgv⟩ := id C0
  have hown : s.vm.findClass RL = some m.cls := hown
  have htg : ∀ w ∈ oh_t, w.before _ s = true := fun w h => hts w (List.mem_filter.mp h).1
  have hA : ∀ q, s.heap.size ≤ q → A q := fun q h => by rw [hAe]; exact h
  have hbA : ¬ A b := by rw [hAe]; exact Nat.not_le.mpr hbl
  refine lv_aload_n hx hb dL_law_746 rfl (lv_at hl 2 rfl) ?_
  refine lv_aload_n hx hb dL_law_747 rfl (lv_at hl 3 rfl) ?_
  refine lv_iload_n hx hb dL_law_748 rfl (lv_at hl 0 rfl) ?_
  refine lv_iconst (v := 1) hx hb dL_law_749 (by decide) ?_
  refine lv_iadd hx hb dL_law_750 ?_
  refine oh_nrm (v := 1) (by decide) ?_
  refine va_sld hx hb hX hbl hbA hS (show vp_in 1 8 by unfold vp_in; decide) dL_law_751 ?_
  refine oh_nrm (v := xs 1) rfl ?_
  refine lv_aload_n hx hb dL_law_752 rfl (lv_at hl 3 rfl) ?_
  refine lv_iload_n hx hb dL_law_753 rfl (lv_at hl 0 rfl) ?_
  refine lv_iconst (v := 2) hx hb dL_law_754 (by decide) ?_
  refine lv_iadd hx hb dL_law_755 ?_
  refine oh_nrm (v := 2) (by decide) ?_
  refine va_sld hx hb hX hbl hbA hS (show vp_in 2 8 by unfold vp_in; decide) dL_law_756 ?_
  refine oh_nrm (v := xs 2) rfl ?_
  refine oh_lV (wx := lw_x E xa) (wm := lw_m E ma r1 r2 r3 r4 r5) (As := [.int (xs 1), .int (xs 2)]) (rest := []) ⟨hx, hb, hml, hown, htg⟩ (c_X6_part l D E G H.size (xa 0) (xs 1) (xs 2) (xa 1) (xa 9) (xa 17) (xa 24) (xa 28) (xa 30) (xa 33) (xa 34) (xa 2) (xa 3) (xa 4) (xa 5) (xa 6) (xa 7) (xa 8)) (cwV 2 htg (oh_gV q_456 q_457 q_458 q_66 q_459) rfl rfl rfl pdVX6_part ⟨Nat.le_of_ble_eq_true rfl, Nat.le_of_ble_eq_true rfl⟩) hK hP hD hG hS hA [0, 1, 2, 6, 33] rfl (by decide) (show ∀ i ∈ ([0, 1, 2, 6, 33] : List Nat), i < 35 by decide) (va_recv hK hP (ci := 6) (q0 := 0) rfl rfl) rfl hl.1 rfl (Nat.le_of_ble_eq_true rfl) dL_law_757 ⟨(show 109 ≤ 600000 from Nat.le_of_ble_eq_true rfl), (show 2593 ≤ 7302250 from Nat.le_of_ble_eq_true rfl)⟩ (fun r_1 u H locs hw hP hD hS => ?_)
  subst hw
  refine W.widen (k := 109) (n := 2593) (Nat.le_refl _) (Nat.le_refl _) ?_
  refine lv_aload_n hx hb dL_law_760 rfl (lv_at hl 1 rfl) ?_
  refine lv_aload_n hx hb dL_law_761 rfl (lv_at hl 3 rfl) ?_
  refine lv_iload_n hx hb dL_law_762 rfl (lv_at hl 0 rfl) ?_
  refine lv_iconst (v := 1) hx hb dL_law_763 (by decide) ?_
  refine lv_iadd hx hb dL_law_764 ?_
  refine oh_nrm (v := 1) (by decide) ?_
  refine va_sld hx hb hX hbl hbA hS (show vp_in 1 8 by unfold vp_in; decide) dL_law_765 ?_
  refine oh_nrm (v := xs 1) rfl ?_
  refine lv_aload_n hx hb dL_law_766 rfl (lv_at hl 3 rfl) ?_
  refine lv_iload_n hx hb dL_law_767 rfl (lv_at hl 0 rfl) ?_
  refine lv_iconst (v := 2) hx hb dL_law_768 (by decide) ?_
  refine lv_iadd hx hb dL_law_769 ?_
  refine oh_nrm (v := 2) (by decide) ?_
  refine va_sld hx hb hX hbl hbA hS (show vp_in 2 8 by unfold vp_in; decide) dL_law_770 ?_
  refine oh_nrm (v := xs 2) rfl ?_
  refine oh_mV (wr := []) (As := [.int (xs 1), .int (xs 2)]) (rest := [.int (fX6_part (xs 1) (xs 2))]) ⟨hx, hb, hml, hown, htg⟩ (c_X7_part l D E G H.size (ma 0) (xs 1) (xs 2) (ma 1) (ma 2) (ma 3) (ma 4) (ma 5) (ma 6) (ma 7) (ma 8) (ma 9) (ma 10) (ma 11) (ma 12) (ma 13) (ma 14) (ma 15) (fun i => if i < 5 then some (r5 i) else none) (r5 0) (if_pos (by decide))) (cwV 2 htg (oh_gV q_1164 q_1165 q_1166 q_73 q_1167) rfl rfl rfl pdVX7_part ⟨Nat.le_of_ble_eq_true rfl, Nat.le_of_ble_eq_true rfl⟩) hK hP hD hG hS hA [0, 12, 69, 8] [] rfl rfl (by decide) (by decide) (by decide) (va_recv hK hP (ci := 7) (q0 := 0) rfl rfl) rfl hl.1 rfl (Nat.le_of_ble_eq_true rfl) dL_law_771 ⟨(show 109 ≤ 600000 from Nat.le_of_ble_eq_true rfl), (show 2593 ≤ 7302250 from Nat.le_of_ble_eq_true rfl)⟩ (fun r_2 u H locs hw hP hD hS => ?_)
  subst hw
  refine W.widen (k := 109) (n := 2593) (Nat.le_refl _) (Nat.le_refl _) ?_
  refine lv_icmp_eq (tgt := 2047) hx hb dL_law_774 (by decide) (fun _ => ?_) (fun c => absurd (show (fX6_part (xs 1) (xs 2)) = (fX7_part (xs 1) (xs 2)) from eq_part (xs 1) (xs 2)) c)
  exact lw_end C0 hAe hS (lv_sub hl [0, 3] rfl) (show 109 ≤ 600000 from Nat.le_of_ble_eq_true rfl) (show 2593 ≤ 7302250 from Nat.le_of_ble_eq_true rfl)
set_option maxHeartbeats 4000000 in
set_option maxRecDepth 100000 in
/-- the law at one call of ask -/
theorem lc_ask {p : Program} {e : Env} {s : State} {m : MethodId} {below : List Frame} {meth : Method} {c : Code} (l : Launch) {b : Nat} {xs : Nat → Int32} (C0 : lw_At p s m meth c b 8 xs) {D : va_G} {E : Nat → ClassId} {G : Nat → Nat} {A : Nat → Prop} (hAe : A = fun q => s.heap.size ≤ q) (hK : va_K D vwCl (oh_ty E) s) (hG : oh_G G A s) {xa ma r1 r2 r3 r4 r5 : Nat → Nat} {H : Heap} {locs : List Loc} (hP : va_P D vwCl (lw_x E xa ++ lw_m E ma r1 r2 r3 r4 r5) H) (hD : va_D A (lw_x E xa ++ lw_m E ma r1 r2 r3 r4 r5)) (hS : va_S A s.heap H locs) {ls : Array Slot} (hl : lv_has ls 4 [(3, .int 0), (2, .ref (ma 0)), (1, .ref (xa 0)), (0, .ref b)]) : W p l e room_1 s m #[Value.ref b] below meth c H locs 109 2593 (lw_Z below #[Value.ref b] s) (F0 m 779 ls []) := by
  obtain ⟨hx, hb, hr, hml, hown, hts, hX, hbl, hlocks, hgv⟩ := id C0
  have hown : s.vm.findClass RL = some m.cls := hown
  have htg : ∀ w ∈ oh_t, w.before _ s = true := fun w h => hts w (List.mem_filter.mp h).1
  have hA : ∀ q, s.heap.size ≤ q → A q := fun q h => by rw [hAe]; exact h
  have hbA : ¬ A b := by rw [hAe]; exact Nat.not_le.mpr hbl
  refine lv_aload_n hx hb dL_law_779 rfl (lv_at hl 2 rfl) ?_
  refine lv_aload_n hx hb dL_law_780 rfl (lv_at hl 3 rfl) ?_
  refine lv_iload_n hx hb dL_law_781 rfl (lv_at hl 0 rfl) ?_
  refine lv_iconst (v := 1) hx hb dL_law_782 (by decide) ?_
  refine lv_iadd hx hb dL_law_783 ?_
  refine oh_nrm (v := 1) (by decide) ?_
  refine va_sld hx hb hX hbl hbA hS (show vp_in 1 8 by unfold vp_in; decide) dL_law_784 ?_
  refine oh_nrm (v := xs 1) rfl ?_
  refine lv_aload_n hx hb dL_law_785 rfl (lv_at hl 3 rfl) ?_
  refine lv_iload_n hx hb dL_law_786 rfl (lv_at hl 0 rfl) ?_
  refine lv_iconst (v := 2) hx hb dL_law_787 (by decide) ?_
  refine lv_iadd hx hb dL_law_788 ?_
  refine oh_nrm (v := 2) (by decide) ?_
  refine va_sld hx hb hX hbl hbA hS (show vp_in 2 8 by unfold vp_in; decide) dL_law_789 ?_
  refine oh_nrm (v := xs 2) rfl ?_
  refine oh_lV (wx := lw_x E xa) (wm := lw_m E ma r1 r2 r3 r4 r5) (As := [.int (xs 1), .int (xs 2)]) (rest := []) ⟨hx, hb, hml, hown, htg⟩ (c_X6_ask l D E G H.size (xa 0) (xs 1) (xs 2) (xa 1) (xa 9) (xa 17) (xa 24) (xa 28) (xa 30) (xa 33) (xa 34) (xa 2) (xa 3) (xa 4) (xa 5) (xa 6) (xa 7) (xa 8)) (cwV 2 htg (oh_gV q_464 q_465 q_466 q_66 q_467) rfl rfl rfl pdVX6_ask ⟨Nat.le_of_ble_eq_true rfl, Nat.le_of_ble_eq_true rfl⟩) hK hP hD hG hS hA [0, 1, 7, 33] rfl (by decide) (show ∀ i ∈ ([0, 1, 7, 33] : List Nat), i < 35 by decide) (va_recv hK hP (ci := 6) (q0 := 0) rfl rfl) rfl hl.1 rfl (Nat.le_of_ble_eq_true rfl) dL_law_790 ⟨(show 109 ≤ 600000 from Nat.le_of_ble_eq_true rfl), (show 2593 ≤ 7302250 from Nat.le_of_ble_eq_true rfl)⟩ (fun r_1 u H locs hw hP hD hS => ?_)
  subst hw
  refine W.widen (k := 109) (n := 2593) (Nat.le_refl _) (Nat.le_refl _) ?_
  refine lv_aload_n hx hb dL_law_793 rfl (lv_at hl 1 rfl) ?_
  refine lv_aload_n hx hb dL_law_794 rfl (lv_at hl 3 rfl) ?_
  refine lv_iload_n hx hb dL_law_795 rfl (lv_at hl 0 rfl) ?_
  refine lv_iconst (v := 1) hx hb dL_law_796 (by decide) ?_
  refine lv_iadd hx hb dL_law_797 ?_
  refine oh_nrm (v := 1) (by decide) ?_
  refine va_sld hx hb hX hbl hbA hS (show vp_in 1 8 by unfold vp_in; decide) dL_law_798 ?_
  refine oh_nrm (v := xs 1) rfl ?_
  refine lv_aload_n hx hb dL_law_799 rfl (lv_at hl 3 rfl) ?_
  refine lv_iload_n hx hb dL_law_800 rfl (lv_at hl 0 rfl) ?_
  refine lv_iconst (v := 2) hx hb dL_law_801 (by decide) ?_
  refine lv_iadd hx hb dL_law_802 ?_
  refine oh_nrm (v := 2) (by decide) ?_
  refine va_sld hx hb hX hbl hbA hS (show vp_in 2 8 by unfold vp_in; decide) dL_law_803 ?_
  refine oh_nrm (v := xs 2) rfl ?_
  refine oh_mV (wr := []) (As := [.int (xs 1), .int (xs 2)]) (rest := [.int (fX6_ask (xs 1) (xs 2))]) ⟨hx, hb, hml, hown, htg⟩ (c_X7_ask l D E G H.size (ma 0) (xs 1) (xs 2) (ma 1) (ma 2) (ma 3) (ma 4) (ma 5) (ma 6) (ma 7) (ma 8) (ma 9) (ma 10) (ma 11) (ma 12) (ma 13) (ma 14) (ma 15)) (cwV 2 htg (oh_gV q_1168 q_1169 q_1170 q_73 q_1171) rfl rfl rfl pdVX7_ask ⟨Nat.le_of_ble_eq_true rfl, Nat.le_of_ble_eq_true rfl⟩) hK hP hD hG hS hA [0, 13, 8] [] rfl rfl (by decide) (by decide) (by decide) (va_recv hK hP (ci := 7) (q0 := 0) rfl rfl) rfl hl.1 rfl (Nat.le_of_ble_eq_true rfl) dL_law_804 ⟨(show 109 ≤ 600000 from Nat.le_of_ble_eq_true rfl), (show 2593 ≤ 7302250 from Nat.le_of_ble_eq_true rfl)⟩ (fun r_2 u H locs hw hP hD hS => ?_)
  subst hw
  refine W.widen (k := 109) (n := 2593) (Nat.le_refl _) (Nat.le_refl _) ?_
  refine lv_icmp_eq (tgt := 2047) hx hb dL_law_807 (by decide) (fun _ => ?_) (fun c => absurd (show (fX6_ask (xs 1) (xs 2)) = (fX7_ask (xs 1) (xs 2)) from eq_ask (xs 1) (xs 2)) c)
  exact lw_end C0 hAe hS (lv_sub hl [0, 3] rfl) (show 109 ≤ 600000 from Nat.le_of_ble_eq_true rfl) (show 2593 ≤ 7302250 from Nat.le_of_ble_eq_true rfl)
set_option maxHeartbeats 4000000 in
set_option maxRecDepth 100000 in
/-- the law at one call of stand -/
theorem lc_stand {p : Program} {e : Env} {s : State} {m : MethodId} {below : List Frame} {meth : Method} {c : Code} (l : Launch) {b : Nat} {xs : Nat → Int32} (C0 : lw_At p s m meth c b 8 xs) {D : va_G} {E : Nat → ClassId} {G : Nat → Nat} {A : Nat → Prop} (hAe : A = fun q => s.heap.size ≤ q) (hK : va_K D vwCl (oh_ty E) s) (hG : oh_G G A s) {xa ma r1 r2 r3 r4 r5 : Nat → Nat} {H : Heap} {locs : List Loc} (hP : va_P D vwCl (lw_x E xa ++ lw_m E ma r1 r2 r3 r4 r5) H) (hD : va_D A (lw_x E xa ++ lw_m E ma r1 r2 r3 r4 r5)) (hS : va_S A s.heap H locs) {ls : Array Slot} (hl : lv_has ls 4 [(3, .int 0), (2, .ref (ma 0)), (1, .ref (xa 0)), (0, .ref b)]) : W p l e room_1 s m #[Value.ref b] below meth c H locs 109 2593 (lw_Z below #[Value.ref b] s) (F0 m 812 ls []) := by
  obtain ⟨hx, hb, hr, hml, hown, hts, hX, hbl, hlocks, hgv⟩ := id C0
  have hown : s.vm.findClass RL = some m.cls := hown
  have htg : ∀ w ∈ oh_t, w.before _ s = true := fun w h => hts w (List.mem_filter.mp h).1
  have hA : ∀ q, s.heap.size ≤ q → A q := fun q h => by rw [hAe]; exact h
  have hbA : ¬ A b := by rw [hAe]; exact Nat.not_le.mpr hbl
  refine lv_aload_n hx hb dL_law_812 rfl (lv_at hl 2 rfl) ?_
  refine lv_aload_n hx hb dL_law_813 rfl (lv_at hl 3 rfl) ?_
  refine lv_iload_n hx hb dL_law_814 rfl (lv_at hl 0 rfl) ?_
  refine lv_iconst (v := 1) hx hb dL_law_815 (by decide) ?_
  refine lv_iadd hx hb dL_law_816 ?_
  refine oh_nrm (v := 1) (by decide) ?_
  refine va_sld hx hb hX hbl hbA hS (show vp_in 1 8 by unfold vp_in; decide) dL_law_817 ?_
  refine oh_nrm (v := xs 1) rfl ?_
  refine lv_aload_n hx hb dL_law_818 rfl (lv_at hl 3 rfl) ?_
  refine lv_iload_n hx hb dL_law_819 rfl (lv_at hl 0 rfl) ?_
  refine lv_iconst (v := 2) hx hb dL_law_820 (by decide) ?_
  refine lv_iadd hx hb dL_law_821 ?_
  refine oh_nrm (v := 2) (by decide) ?_
  refine va_sld hx hb hX hbl hbA hS (show vp_in 2 8 by unfold vp_in; decide) dL_law_822 ?_
  refine oh_nrm (v := xs 2) rfl ?_
  refine lv_aload_n hx hb dL_law_823 rfl (lv_at hl 3 rfl) ?_
  refine lv_iload_n hx hb dL_law_824 rfl (lv_at hl 0 rfl) ?_
  refine lv_iconst (v := 3) hx hb dL_law_825 (by decide) ?_
  refine lv_iadd hx hb dL_law_826 ?_
  refine oh_nrm (v := 3) (by decide) ?_
  refine va_sld hx hb hX hbl hbA hS (show vp_in 3 8 by unfold vp_in; decide) dL_law_827 ?_
  refine oh_nrm (v := xs 3) rfl ?_
  refine lv_if_eq (tgt := 835) hx hb dL_law_828 (by decide) (fun (c_1 : (xs 3) = 0) => ?_) (fun (c_1 : ¬ ((xs 3) = 0)) => ?_)
  · refine lv_iconst (v := 0) hx hb dL_law_835 (by decide) ?_
    refine oh_lV (wx := lw_x E xa) (wm := lw_m E ma r1 r2 r3 r4 r5) (As := [.int (xs 1), .int (xs 2), .int 0]) (rest := []) ⟨hx, hb, hml, hown, htg⟩ (c_X6_stand l D E G H.size (xa 0) (xs 1) (xs 2) 0 (xa 1) (xa 9) (xa 17) (xa 24) (xa 28) (xa 30) (xa 33) (xa 34) (xa 2) (xa 3) (xa 4) (xa 5) (xa 6) (xa 7) (xa 8)) (cwV 3 htg (oh_gV q_470 q_471 q_472 q_66 q_473) rfl rfl rfl pdVX6_stand ⟨Nat.le_of_ble_eq_true rfl, Nat.le_of_ble_eq_true rfl⟩) hK hP hD hG hS hA [0, 1, 2, 33] rfl (by decide) (show ∀ i ∈ ([0, 1, 2, 33] : List Nat), i < 35 by decide) (va_recv hK hP (ci := 6) (q0 := 0) rfl rfl) rfl hl.1 rfl (Nat.le_of_ble_eq_true rfl) dL_law_836 ⟨(show 109 ≤ 600000 from Nat.le_of_ble_eq_true rfl), (show 2593 ≤ 7302250 from Nat.le_of_ble_eq_true rfl)⟩ (fun r_1 u H locs hw hP hD hS => ?_)
    subst hw
    refine W.widen (k := 109) (n := 2593) (Nat.le_refl _) (Nat.le_refl _) ?_
    refine lv_aload_n hx hb dL_law_839 rfl (lv_at hl 1 rfl) ?_
    refine lv_aload_n hx hb dL_law_840 rfl (lv_at hl 3 rfl) ?_
    refine lv_iload_n hx hb dL_law_841 rfl (lv_at hl 0 rfl) ?_
    refine lv_iconst (v := 1) hx hb dL_law_842 (by decide) ?_
    refine lv_iadd hx hb dL_law_843 ?_
    refine oh_nrm (v := 1) (by decide) ?_
    refine va_sld hx hb hX hbl hbA hS (show vp_in 1 8 by unfold vp_in; decide) dL_law_844 ?_
    refine oh_nrm (v := xs 1) rfl ?_
    refine lv_aload_n hx hb dL_law_845 rfl (lv_at hl 3 rfl) ?_
    refine lv_iload_n hx hb dL_law_846 rfl (lv_at hl 0 rfl) ?_
    refine lv_iconst (v := 2) hx hb dL_law_847 (by decide) ?_
    refine lv_iadd hx hb dL_law_848 ?_
    refine oh_nrm (v := 2) (by decide) ?_
    refine va_sld hx hb hX hbl hbA hS (show vp_in 2 8 by unfold vp_in; decide) dL_law_849 ?_
    refine oh_nrm (v := xs 2) rfl ?_
    refine lv_aload_n hx hb dL_law_850 rfl (lv_at hl 3 rfl) ?_
    refine lv_iload_n hx hb dL_law_851 rfl (lv_at hl 0 rfl) ?_
    refine lv_iconst (v := 3) hx hb dL_law_852 (by decide) ?_
    refine lv_iadd hx hb dL_law_853 ?_
    refine oh_nrm (v := 3) (by decide) ?_
    refine va_sld hx hb hX hbl hbA hS (show vp_in 3 8 by unfold vp_in; decide) dL_law_854 ?_
    refine oh_nrm (v := xs 3) rfl ?_
    refine lv_if_eq (tgt := 862) hx hb dL_law_855 (by decide) (fun (c_2 : (xs 3) = 0) => ?_) (fun (c_2 : ¬ ((xs 3) = 0)) => ?_)
    · refine lv_iconst (v := 0) hx hb dL_law_862 (by decide) ?_
      refine oh_mV (wr := []) (As := [.int (xs 1), .int (xs 2), .int 0]) (rest := [.int (-2)]) ⟨hx, hb, hml, hown, htg⟩ (c_X7_stand l D E G H.size (ma 0) (xs 1) (xs 2) 0 (ma 1) (ma 2) (ma 3) (ma 4) (ma 5) (ma 6) (ma 7) (ma 8) (ma 9) (ma 10) (ma 11) (ma 12) (ma 13) (ma 14) (ma 15)) (cwV 3 htg (oh_gV q_1173 q_1174 q_1175 q_73 q_1176) rfl rfl rfl pdVX7_stand ⟨Nat.le_of_ble_eq_true rfl, Nat.le_of_ble_eq_true rfl⟩) hK hP hD hG hS hA [0, 8] [] rfl rfl (by decide) (by decide) (by decide) (va_recv hK hP (ci := 7) (q0 := 0) rfl rfl) rfl hl.1 rfl (Nat.le_of_ble_eq_true rfl) dL_law_863 ⟨(show 109 ≤ 600000 from Nat.le_of_ble_eq_true rfl), (show 2593 ≤ 7302250 from Nat.le_of_ble_eq_true rfl)⟩ (fun r_2 u H locs hw hP hD hS => ?_)
      subst hw
      refine W.widen (k := 109) (n := 2593) (Nat.le_refl _) (Nat.le_refl _) ?_
      refine lv_icmp_eq (tgt := 2047) hx hb dL_law_866 (by decide) (fun _ => ?_) (fun c => absurd (show (-2 : Int32) = (-2) from by decide) c)
      exact lw_end C0 hAe hS (lv_sub hl [0, 3] rfl) (show 109 ≤ 600000 from Nat.le_of_ble_eq_true rfl) (show 2593 ≤ 7302250 from Nat.le_of_ble_eq_true rfl)
    · refine lv_iconst (v := 1) hx hb dL_law_858 (by decide) ?_
      refine lv_goto (tgt := 863) hx hb dL_law_859 (by decide) ?_
      refine oh_mV (wr := []) (As := [.int (xs 1), .int (xs 2), .int 1]) (rest := [.int (-2)]) ⟨hx, hb, hml, hown, htg⟩ (c_X7_stand l D E G H.size (ma 0) (xs 1) (xs 2) 1 (ma 1) (ma 2) (ma 3) (ma 4) (ma 5) (ma 6) (ma 7) (ma 8) (ma 9) (ma 10) (ma 11) (ma 12) (ma 13) (ma 14) (ma 15)) (cwV 3 htg (oh_gV q_1173 q_1174 q_1175 q_73 q_1176) rfl rfl rfl pdVX7_stand ⟨Nat.le_of_ble_eq_true rfl, Nat.le_of_ble_eq_true rfl⟩) hK hP hD hG hS hA [0, 8] [] rfl rfl (by decide) (by decide) (by decide) (va_recv hK hP (ci := 7) (q0 := 0) rfl rfl) rfl hl.1 rfl (Nat.le_of_ble_eq_true rfl) dL_law_863 ⟨(show 109 ≤ 600000 from Nat.le_of_ble_eq_true rfl), (show 2593 ≤ 7302250 from Nat.le_of_ble_eq_true rfl)⟩ (fun r_3 u H locs hw hP hD hS => ?_)
      subst hw
      refine W.widen (k := 109) (n := 2593) (Nat.le_refl _) (Nat.le_refl _) ?_
      refine lv_icmp_eq (tgt := 2047) hx hb dL_law_866 (by decide) (fun _ => ?_) (fun c => absurd (show (-2 : Int32) = (-2) from by decide) c)
      exact lw_end C0 hAe hS (lv_sub hl [0, 3] rfl) (show 109 ≤ 600000 from Nat.le_of_ble_eq_true rfl) (show 2593 ≤ 7302250 from Nat.le_of_ble_eq_true rfl)
  · refine lv_iconst (v := 1) hx hb dL_law_831 (by decide) ?_
    refine lv_goto (tgt := 836) hx hb dL_law_832 (by decide) ?_
    refine oh_lV (wx := lw_x E xa) (wm := lw_m E ma r1 r2 r3 r4 r5) (As := [.int (xs 1), .int (xs 2), .int 1]) (rest := []) ⟨hx, hb, hml, hown, htg⟩ (c_X6_stand l D E G H.size (xa 0) (xs 1) (xs 2) 1 (xa 1) (xa 9) (xa 17) (xa 24) (xa 28) (xa 30) (xa 33) (xa 34) (xa 2) (xa 3) (xa 4) (xa 5) (xa 6) (xa 7) (xa 8)) (cwV 3 htg (oh_gV q_470 q_471 q_472 q_66 q_473) rfl rfl rfl pdVX6_stand ⟨Nat.le_of_ble_eq_true rfl, Nat.le_of_ble_eq_true rfl⟩) hK hP hD hG hS hA [0, 1, 2, 33] rfl (by decide) (show ∀ i ∈ ([0, 1, 2, 33] : List Nat), i < 35 by decide) (va_recv hK hP (ci := 6) (q0 := 0) rfl rfl) rfl hl.1 rfl (Nat.le_of_ble_eq_true rfl) dL_law_836 ⟨(show 109 ≤ 600000 from Nat.le_of_ble_eq_true rfl), (show 2593 ≤ 7302250 from Nat.le_of_ble_eq_true rfl)⟩ (fun r_4 u H locs hw hP hD hS => ?_)
    subst hw
    refine W.widen (k := 109) (n := 2593) (Nat.le_refl _) (Nat.le_refl _) ?_
    refine lv_aload_n hx hb dL_law_839 rfl (lv_at hl 1 rfl) ?_
    refine lv_aload_n hx hb dL_law_840 rfl (lv_at hl 3 rfl) ?_
    refine lv_iload_n hx hb dL_law_841 rfl (lv_at hl 0 rfl) ?_
    refine lv_iconst (v := 1) hx hb dL_law_842 (by decide) ?_
    refine lv_iadd hx hb dL_law_843 ?_
    refine oh_nrm (v := 1) (by decide) ?_
    refine va_sld hx hb hX hbl hbA hS (show vp_in 1 8 by unfold vp_in; decide) dL_law_844 ?_
    refine oh_nrm (v := xs 1) rfl ?_
    refine lv_aload_n hx hb dL_law_845 rfl (lv_at hl 3 rfl) ?_
    refine lv_iload_n hx hb dL_law_846 rfl (lv_at hl 0 rfl) ?_
    refine lv_iconst (v := 2) hx hb dL_law_847 (by decide) ?_
    refine lv_iadd hx hb dL_law_848 ?_
    refine oh_nrm (v := 2) (by decide) ?_
    refine va_sld hx hb hX hbl hbA hS (show vp_in 2 8 by unfold vp_in; decide) dL_law_849 ?_
    refine oh_nrm (v := xs 2) rfl ?_
    refine lv_aload_n hx hb dL_law_850 rfl (lv_at hl 3 rfl) ?_
    refine lv_iload_n hx hb dL_law_851 rfl (lv_at hl 0 rfl) ?_
    refine lv_iconst (v := 3) hx hb dL_law_852 (by decide) ?_
    refine lv_iadd hx hb dL_law_853 ?_
    refine oh_nrm (v := 3) (by decide) ?_
    refine va_sld hx hb hX hbl hbA hS (show vp_in 3 8 by unfold vp_in; decide) dL_law_854 ?_
    refine oh_nrm (v := xs 3) rfl ?_
    refine lv_if_eq (tgt := 862) hx hb dL_law_855 (by decide) (fun (c_3 : (xs 3) = 0) => ?_) (fun (c_3 : ¬ ((xs 3) = 0)) => ?_)
    · refine lv_iconst (v := 0) hx hb dL_law_862 (by decide) ?_
      refine oh_mV (wr := []) (As := [.int (xs 1), .int (xs 2), .int 0]) (rest := [.int (-2)]) ⟨hx, hb, hml, hown, htg⟩ (c_X7_stand l D E G H.size (ma 0) (xs 1) (xs 2) 0 (ma 1) (ma 2) (ma 3) (ma 4) (ma 5) (ma 6) (ma 7) (ma 8) (ma 9) (ma 10) (ma 11) (ma 12) (ma 13) (ma 14) (ma 15)) (cwV 3 htg (oh_gV q_1173 q_1174 q_1175 q_73 q_1176) rfl rfl rfl pdVX7_stand ⟨Nat.le_of_ble_eq_true rfl, Nat.le_of_ble_eq_true rfl⟩) hK hP hD hG hS hA [0, 8] [] rfl rfl (by decide) (by decide) (by decide) (va_recv hK hP (ci := 7) (q0 := 0) rfl rfl) rfl hl.1 rfl (Nat.le_of_ble_eq_true rfl) dL_law_863 ⟨(show 109 ≤ 600000 from Nat.le_of_ble_eq_true rfl), (show 2593 ≤ 7302250 from Nat.le_of_ble_eq_true rfl)⟩ (fun r_5 u H locs hw hP hD hS => ?_)
      subst hw
      refine W.widen (k := 109) (n := 2593) (Nat.le_refl _) (Nat.le_refl _) ?_
      refine lv_icmp_eq (tgt := 2047) hx hb dL_law_866 (by decide) (fun _ => ?_) (fun c => absurd (show (-2 : Int32) = (-2) from by decide) c)
      exact lw_end C0 hAe hS (lv_sub hl [0, 3] rfl) (show 109 ≤ 600000 from Nat.le_of_ble_eq_true rfl) (show 2593 ≤ 7302250 from Nat.le_of_ble_eq_true rfl)
    · refine lv_iconst (v := 1) hx hb dL_law_858 (by decide) ?_
      refine lv_goto (tgt := 863) hx hb dL_law_859 (by decide) ?_
      refine oh_mV (wr := []) (As := [.int (xs 1), .int (xs 2), .int 1]) (rest := [.int (-2)]) ⟨hx, hb, hml, hown, htg⟩ (c_X7_stand l D E G H.size (ma 0) (xs 1) (xs 2) 1 (ma 1) (ma 2) (ma 3) (ma 4) (ma 5) (ma 6) (ma 7) (ma 8) (ma 9) (ma 10) (ma 11) (ma 12) (ma 13) (ma 14) (ma 15)) (cwV 3 htg (oh_gV q_1173 q_1174 q_1175 q_73 q_1176) rfl rfl rfl pdVX7_stand ⟨Nat.le_of_ble_eq_true rfl, Nat.le_of_ble_eq_true rfl⟩) hK hP hD hG hS hA [0, 8] [] rfl rfl (by decide) (by decide) (by decide) (va_recv hK hP (ci := 7) (q0 := 0) rfl rfl) rfl hl.1 rfl (Nat.le_of_ble_eq_true rfl) dL_law_863 ⟨(show 109 ≤ 600000 from Nat.le_of_ble_eq_true rfl), (show 2593 ≤ 7302250 from Nat.le_of_ble_eq_true rfl)⟩ (fun r_6 u H locs hw hP hD hS => ?_)
      subst hw
      refine W.widen (k := 109) (n := 2593) (Nat.le_refl _) (Nat.le_refl _) ?_
      refine lv_icmp_eq (tgt := 2047) hx hb dL_law_866 (by decide) (fun _ => ?_) (fun c => absurd (show (-2 : Int32) = (-2) from by decide) c)
      exact lw_end C0 hAe hS (lv_sub hl [0, 3] rfl) (show 109 ≤ 600000 from Nat.le_of_ble_eq_true rfl) (show 2593 ≤ 7302250 from Nat.le_of_ble_eq_true rfl)
