set_option maxHeartbeats 4000000 in
set_option maxRecDepth 100000 in
/-- THE LAW, from its entry -/
theorem whole_start {p : Program} {e : Env} {s : State} {m : MethodId} {below : List Frame} {meth : Method} {c : Code} (l : Launch) {b L : Nat} {xs : Nat → Int32} (hL : L ≤ 4096) (C0 : lw_At p s m meth c b L xs) : W p l e room_1 s m #[Value.ref b] below meth c s.heap [] 0 0 (lw_Z below #[Value.ref b] s) (entryFrame m ([Value.ref b] : List Value).toArray 4) := by
  obtain ⟨D, E, G, hK, hG⟩ := lw_env C0
  obtain ⟨hx, hb, hr, hml, hown, hts, hX, hbl, hlocks, hgv⟩ := id C0
  have hown : s.vm.findClass RL = some m.cls := hown
  have htg : ∀ w ∈ oh_t, w.before #[Value.ref b] s = true := fun w h => hts w (List.mem_filter.mp h).1
  obtain ⟨A, hAe⟩ : ∃ A : Nat → Prop, A = fun q => s.heap.size ≤ q := ⟨_, rfl⟩
  rw [← hAe] at hG
  have hA : ∀ q, s.heap.size ≤ q → A q := fun q h => by rw [hAe]; exact h
  have hS : va_S A s.heap s.heap [] := va_S.rf
  have hP : va_P D vwCl [] s.heap := fun k q h => by simp at h
  have hD : va_D A [] := ⟨fun i j p q h => by simp at h, fun k q h => by simp at h⟩
  have hl := lv_entry ([.ref b]) (n := 4) (Nat.le_of_ble_eq_true rfl)
  rw [lg_entry_eq]
  generalize (lg_sl ([.ref b]) ++ List.replicate (4 - (lg_sl ([.ref b])).length) Slot.unset).toArray = ls at hl ⊢
  have hl : lv_has ls 4 [(0, .ref b)] := hl
  refine va_new (ci := 6) (fs := [.null, .null, .int 0, .null, .null, .null, .null, .null, .null]) (C := RX6) (T := TX6) (N := 9) hx hb htg ig_6 tyX6 tyX6_ok hown (htg _ q_81) (htg _ q_82) (htg _ q_66) hK hP hD hS hA rfl oh_df6 (show 1 ≤ 600000 from Nat.le_of_ble_eq_true rfl) (show 9 ≤ 7302250 from Nat.le_of_ble_eq_true rfl) dL_law_0 (fun q0 H hP hD hS => ?_)
  have hP : va_P D vwCl [(q0, .inr (6, [.null, .null, .int 0, .null, .null, .null, .null, .null, .null]))] H := hP
  have hD : va_D A [(q0, .inr (6, [.null, .null, .int 0, .null, .null, .null, .null, .null, .null]))] := hD
  refine W.widen (k := 1) (n := 9) (Nat.le_refl _) (Nat.le_refl _) ?_
  refine lv_dup hx hb dL_law_3 rfl ?_
  refine oh_mI (As := []) (rest := [.ref q0]) (wr := []) ⟨hx, hb, hml, hown, htg⟩ (c_X6_init l D E G H.size q0) (cwI 0 htg (oh_gW q_85) rfl rfl rfl (htg _ q_66) (htg _ q_83) (htg _ q_84) rfl pdX6_init ⟨Nat.le_of_ble_eq_true rfl, Nat.le_of_ble_eq_true rfl⟩) hK hP hD hG hS hA [0] [] rfl rfl (by decide) (by decide) (by decide) rfl hl.1 rfl (Nat.le_of_ble_eq_true rfl) dL_law_4 ⟨show 35 ≤ 600000 from Nat.le_of_ble_eq_true rfl, show 1477 ≤ 7302250 from Nat.le_of_ble_eq_true rfl⟩ (fun u H locs hw hP hD hS => ?_)
  obtain ⟨q5, q9_1, q23_1, q37_1, q50_1, q63_1, q70_1, q93_1, q16, q9_2, q23_2, q37_2, q50_2, q63_2, q70_2, q93_2, q32, q10_3, q26_3, q37_3, q48_3, q56_3, q63_3, q47, q7_4, q15_4, q24_4, q58, q8_5, q69, q19_6, q26_6, q89, q96⟩ := u
  refine W.widen (k := 35) (n := 1477) (Nat.le_refl _) (Nat.le_refl _) ?_
  refine lv_astore_n (lv' := [(1, .ref q0), (0, .ref b)]) hx hb dL_law_7 rfl hl (by decide) rfl (fun ls hl => ?_)
  have hP := hP.sub (ws' := oh_W 35 (fun k => ([q0, q5, q16, q32, q47, q58, q69, q89, q96, q10_3, q9_1, q23_1, q37_1, q50_1, q63_1, q70_1, q93_1, q9_2, q23_2, q37_2, q50_2, q63_2, q70_2, q93_2, q26_3, q37_3, q48_3, q56_3, q63_3, q7_4, q15_4, q24_4, q8_5, q19_6, q26_6] : List Nat).getD k 0) (cx0 E (fun k => ([q0, q5, q16, q32, q47, q58, q69, q89, q96, q10_3, q9_1, q23_1, q37_1, q50_1, q63_1, q70_1, q93_1, q9_2, q23_2, q37_2, q50_2, q63_2, q70_2, q93_2, q26_3, q37_3, q48_3, q56_3, q63_3, q7_4, q15_4, q24_4, q8_5, q19_6, q26_6] : List Nat).getD k 0))) [0, 1, 9, 17, 24, 28, 30, 33, 34, 18, 2, 3, 4, 5, 6, 7, 8, 10, 11, 12, 13, 14, 15, 16, 19, 20, 21, 22, 23, 25, 26, 27, 29, 31, 32] rfl
  have hD := hD.sub (ws' := oh_W 35 (fun k => ([q0, q5, q16, q32, q47, q58, q69, q89, q96, q10_3, q9_1, q23_1, q37_1, q50_1, q63_1, q70_1, q93_1, q9_2, q23_2, q37_2, q50_2, q63_2, q70_2, q93_2, q26_3, q37_3, q48_3, q56_3, q63_3, q7_4, q15_4, q24_4, q8_5, q19_6, q26_6] : List Nat).getD k 0) (cx0 E (fun k => ([q0, q5, q16, q32, q47, q58, q69, q89, q96, q10_3, q9_1, q23_1, q37_1, q50_1, q63_1, q70_1, q93_1, q9_2, q23_2, q37_2, q50_2, q63_2, q70_2, q93_2, q26_3, q37_3, q48_3, q56_3, q63_3, q7_4, q15_4, q24_4, q8_5, q19_6, q26_6] : List Nat).getD k 0))) [0, 1, 9, 17, 24, 28, 30, 33, 34, 18, 2, 3, 4, 5, 6, 7, 8, 10, 11, 12, 13, 14, 15, 16, 19, 20, 21, 22, 23, 25, 26, 27, 29, 31, 32] (by decide) rfl
  obtain ⟨a, ea⟩ : ∃ z, z = (fun k => ([q0, q5, q16, q32, q47, q58, q69, q89, q96, q10_3, q9_1, q23_1, q37_1, q50_1, q63_1, q70_1, q93_1, q9_2, q23_2, q37_2, q50_2, q63_2, q70_2, q93_2, q26_3, q37_3, q48_3, q56_3, q63_3, q7_4, q15_4, q24_4, q8_5, q19_6, q26_6] : List Nat).getD k 0) := ⟨_, rfl⟩
  rw [← ea] at hP hD
  have e0 : q0 = a 0 := by rw [ea]; rfl
  rw [e0] at hl
  refine va_new (ci := 7) (fs := [.null, .null, .null, .null, .null, .null, .null, .int 0, .null, .int 0, .null, .int 0, .null, .int 0, .null, .int 0, .null, .null, .null, .int 0, .null, .int 0, .int 0, .int 0, .long 0, .int 0, .int 0, .null, .int 0]) (C := RX7) (T := TX7) (N := 29) hx hb htg ig_7 tyX7 tyX7_ok hown (htg _ q_963) (htg _ q_964) (htg _ q_73) hK hP hD hS hA rfl oh_df7 (show 36 ≤ 600000 from Nat.le_of_ble_eq_true rfl) (show 1506 ≤ 7302250 from Nat.le_of_ble_eq_true rfl) dL_law_8 (fun w0 H hP hD hS => ?_)
  refine W.widen (k := 36) (n := 1506) (Nat.le_refl _) (Nat.le_refl _) ?_
  refine lv_dup hx hb dL_law_11 rfl ?_
  refine oh_mI (As := []) (rest := [.ref w0]) (wr := oh_W 35 a (cx0 E a)) (wc := [(w0, .inr (7, [.null, .null, .null, .null, .null, .null, .null, .int 0, .null, .int 0, .null, .int 0, .null, .int 0, .null, .int 0, .null, .null, .null, .int 0, .null, .int 0, .int 0, .int 0, .long 0, .int 0, .int 0, .null, .int 0]))]) ⟨hx, hb, hml, hown, htg⟩ (c_X7_init l D E G H.size w0) (cwI 0 htg (oh_gW q_967) rfl rfl rfl (htg _ q_73) (htg _ q_965) (htg _ q_966) rfl pdX7_init ⟨Nat.le_of_ble_eq_true rfl, Nat.le_of_ble_eq_true rfl⟩) hK hP hD hG hS hA [35] (List.range (oh_W 35 a (cx0 E a)).length) oh_lst (oh_hdp _ _) (by decide) (oh_nd1 _ List.nodup_range) (fun i hi => by rw [oh_Wlen, List.mem_range] at hi; intro h9; rw [List.mem_singleton] at h9; omega) rfl hl.1 rfl (Nat.le_of_ble_eq_true rfl) dL_law_12 ⟨show 109 ≤ 600000 from Nat.le_of_ble_eq_true rfl, show 2593 ≤ 7302250 from Nat.le_of_ble_eq_true rfl⟩ (fun u H locs hw hP hD hS => ?_)
  obtain ⟨q7, q15, q23, q33, q43, q51, q60, q68, q78, q90, q100, q110, q119, q140, q148, r33, r78, r90, r100, r110⟩ := u
  refine W.widen (k := 109) (n := 2593) (Nat.le_refl _) (Nat.le_refl _) ?_
  have hP := lw_m1 (P := fun w => va_P D vwCl w H) (w := oh_W 35 a (cx0 E a)) (E := E) (x := (fun i => ([w0, q7, q15, q23, q33, q43, q51, q60, q68, q78, q90, q100, q110, q119, q140, q148] : List Nat).getD i 0)) (r1 := r33) (r2 := r78) (r3 := r90) (r4 := r100) (r5 := r110) hP
  have hD := lw_m1 (P := fun w => va_D A w) (w := oh_W 35 a (cx0 E a)) (E := E) (x := (fun i => ([w0, q7, q15, q23, q33, q43, q51, q60, q68, q78, q90, q100, q110, q119, q140, q148] : List Nat).getD i 0)) (r1 := r33) (r2 := r78) (r3 := r90) (r4 := r100) (r5 := r110) hD
  obtain ⟨ma, em⟩ : ∃ z, z = (bm0 (fun i => ([w0, q7, q15, q23, q33, q43, q51, q60, q68, q78, q90, q100, q110, q119, q140, q148] : List Nat).getD i 0) r33 r78 r90 r100 r110) := ⟨_, rfl⟩
  have ew : w0 = ma 0 := by rw [em]; rfl
  rw [← em] at hP hD
  refine lv_astore_n (lv' := [(2, .ref w0), (1, .ref (a 0)), (0, .ref b)]) hx hb dL_law_15 rfl hl (by decide) rfl (fun ls hl => ?_)
  refine lv_iconst (v := 0) hx hb dL_law_16 (by decide) ?_
  refine lv_istore_n (lv' := [(3, .int 0), (2, .ref w0), (1, .ref (a 0)), (0, .ref b)]) hx hb dL_law_17 rfl hl (by decide) rfl (fun ls hl => ?_)
  rw [ew] at hl
  exact lw_18 l C0 hL hAe hK hG (L - 0) 0 ma (cx0 E a) (cm0 E ma) 74 109 2593 H locs ls rfl (Nat.zero_le _) (TyX0 E a) (TyM0 E ma) (RelM0 E ma) (Or.inl ⟨rfl, rfl⟩) rfl ⟨fun _ => rfl, fun _ => rfl⟩ rfl ⟨A00, T00, absX00 E a, absM00 E ma, ok_00, absTX00 E a, absTM00 E ma⟩ (Or.inl rfl) (by decide) (by decide) hP hD hS (by rw [nI_0]; exact hl)
