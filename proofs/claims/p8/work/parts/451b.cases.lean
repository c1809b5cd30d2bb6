set_option maxHeartbeats 4000000 in
set_option maxRecDepth 100000 in
/-- the law at a call of feed -/
theorem lc_feed {p : Program} {e : Env} {s : State} {m : MethodId} {below : List Frame} {meth : Method} {c : Code} (l : Launch) {b L : Nat} {xs : Nat → Int32} (C0 : lw_At p s m meth c b L xs) (hL : L ≤ 4096) {D : va_G} {E : Nat → ClassId} {G : Nat → Nat} {A : Nat → Prop} (hAe : A = fun q => s.heap.size ≤ q) (hK : va_K D vwCl (oh_ty E) s) (hG : oh_G G A s) {a : Nat → Nat} {i : Nat} (hi : i + 8 ≤ L) {ma : Nat → Nat} {C M : Nat → va_E} {n cN sN : Nat} (hT : TyX a E C) (hTM : TyM ma E M) (hR : RelM M) (hkp : KEPT E n ma M) (ht1 : gi (C 5) 1 = gi (M 0) 7) (ht2 : gi (C 0) 2 = 0 ↔ n = 74) (ht3 : ga (C 32) = ga (M 7)) (htA : ∃ (A0 : LA) (T0 : TP), absX 10 C A0 ∧ absM M A0 ∧ okA A0 ∧ absTX 1 16 C T0 ∧ absTM M T0 ∧ ∃ S0 : HZ, absHX C S0 ∧ absHM M S0 ∧ shN (A0 5 0 1) S0) (htK : TIEK n C M) (hcN : cN ≤ 35 + n) (hsN : sN ≤ 1477 + 16 * n) {H : Heap} {locs : List Loc} (hP : va_P D vwCl (oh_W 35 a C ++ oh_W n ma M) H) (hD : va_D A (oh_W 35 a C ++ oh_W n ma M)) (hS : va_S A s.heap H locs) {ls : Array Slot} (hl : lv_has ls 4 [(3, .int (nI i)), (2, .ref (ma 0)), (1, .ref (a 0)), (0, .ref b)]) (kk : ∀ (ma : Nat → Nat) (C M : Nat → va_E) (n cN sN : Nat) (H : Heap) (locs : List Loc) (ls : Array Slot), TyX a E C → TyM ma E M → RelM M → KEPT E n ma M → gi (C 5) 1 = gi (M 0) 7 → (gi (C 0) 2 = 0 ↔ n = 74) → ga (C 32) = ga (M 7) → (∃ (A0 : LA) (T0 : TP), absX 10 C A0 ∧ absM M A0 ∧ okA A0 ∧ absTX 1 16 C T0 ∧ absTM M T0 ∧ ∃ S0 : HZ, absHX C S0 ∧ absHM M S0 ∧ shN (A0 5 0 1) S0) → TIEK n C M → cN ≤ 35 + n → sN ≤ 1477 + 16 * n → va_P D vwCl (oh_W 35 a C ++ oh_W n ma M) H → va_D A (oh_W 35 a C ++ oh_W n ma M) → va_S A s.heap H locs → lv_has ls 4 [(3, .int (nI i)), (2, .ref (ma 0)), (1, .ref (a 0)), (0, .ref b)] → W p l e room_1 s m #[Value.ref b] below meth c H locs cN sN (lw_Z below #[Value.ref b] s) (F0 m 2045 ls [])) : W p l e room_1 s m #[Value.ref b] below meth c H locs cN sN (lw_Z below #[Value.ref b] s) (F0 m 919 ls []) := by
  obtain ⟨hx, hb, hr, hml, hown, hts, hX, hbl, hlocks, hgv⟩ := id C0
  have hown : s.vm.findClass RL = some m.cls := hown
  have htg : ∀ w ∈ oh_t, w.before _ s = true := fun w h => hts w (List.mem_filter.mp h).1
  have hA : ∀ q, s.heap.size ≤ q → A q := fun q h => by rw [hAe]; exact h
  have hbA : ¬ A b := by rw [hAe]; exact Nat.not_le.mpr hbl
  have hn := hkp.le.1
  have hn8 := hkp.le.2
  have ht10 := ht1
  have ht20 := ht2
  have ht30 := ht3
  obtain ⟨A0, T0, hAX, hAM, hok, hUX, hUM, S0, hSX, hSM, hSN⟩ := htA
  have hAX0 := hAX
  have hAM0 := hAM
  have htK0 := htK
  have hSX0 := hSX
  have hSM0 := hSM
  have hSN0 := hSN
  have hUX0 := hUX
  have hok0 := hok
  refine lv_aload_n hx hb dL_law_919 rfl (lv_at hl 2 rfl) ?_
  refine lv_aload_n hx hb dL_law_920 rfl (lv_at hl 3 rfl) ?_
  refine lv_iload_n hx hb dL_law_921 rfl (lv_at hl 0 rfl) ?_
  refine lv_iconst (v := 1) hx hb dL_law_922 (by decide) ?_
  refine lv_iadd hx hb dL_law_923 ?_
  refine va_sld hx hb hX hbl hbA hS (lw_ix hi hL (rg_c (v := 1) (lo := 1) (hi := 1) (by decide)) (by decide)) dL_law_924 ?_
  refine lv_aload_n hx hb dL_law_925 rfl (lv_at hl 3 rfl) ?_
  refine lv_iload_n hx hb dL_law_926 rfl (lv_at hl 0 rfl) ?_
  refine lv_iconst (v := 2) hx hb dL_law_927 (by decide) ?_
  refine lv_iadd hx hb dL_law_928 ?_
  refine va_sld hx hb hX hbl hbA hS (lw_ix hi hL (rg_c (v := 2) (lo := 2) (hi := 2) (by decide)) (by decide)) dL_law_929 ?_
  refine lw_cX (As := [.int (xs ((nI i) + 1).toNatClampNeg), .int (xs ((nI i) + 2).toNatClampNeg)]) (rest := []) ⟨hx, hb, hml, hown, htg⟩ (e_X6_feed l D E G _ a C hT (xs ((nI i) + 1).toNatClampNeg) (xs ((nI i) + 2).toNatClampNeg)) (cwV 2 htg (oh_gV q_483 q_484 q_485 q_66 q_486) rfl rfl rfl pdVX6_feed ⟨Nat.le_of_ble_eq_true rfl, Nat.le_of_ble_eq_true rfl⟩) hK hP hD hG hS hA (va_recv hK (oh_pre_P hP) (ci := 6) (q0 := 0) rfl (oh_wg (by decide) (sX_0 hT))) rfl hl.1 rfl (Nat.le_of_ble_eq_true rfl) dL_law_930 ⟨show cN + 0 ≤ 600000 by omega, show sN + 0 ≤ 7302250 by omega⟩ (fun r_1 C_3 H locs hq_2 hP hD hS => ?_)
  obtain ⟨hT, f_4, hq_2⟩ := hq_2
  have ht2 : gi (C_3 0) 2 = 0 ↔ n = 74 := by rw [show gi (C_3 0) 2 = gi (C 0) 2 from congrArg vi (f_4.2 2 (by decide))]; exact ht2
  have htK := htK.x (fr_all f_4 17 23 (by decide)) (f_4.1 2 rfl (by decide))
  have hAX : absX 10 C_3 A0 := absX_eq hAX (fun k k1 k2 => fr_all f_4 10 15 (by decide) k k1 (by omega))
  have hUX : absTX 1 16 C_3 T0 := absTX_eq hUX (congrArg (fun z => gi z 7) (f_4.1 1 rfl (by decide))) (f_4.1 16 rfl (by decide))
  have hSX : absHX C_3 S0 := hx_fr hSX (f_4.1 29 rfl (by decide)) (f_4.1 30 rfl (by decide))
  refine W.widen (k := cN) (n := sN) (Nat.le_refl _) (Nat.le_refl _) ?_
  refine lv_pop hx hb dL_law_933 rfl ?_
  refine lv_aload_n hx hb dL_law_934 rfl (lv_at hl 1 rfl) ?_
  refine lv_aload_n hx hb dL_law_935 rfl (lv_at hl 3 rfl) ?_
  refine lv_iload_n hx hb dL_law_936 rfl (lv_at hl 0 rfl) ?_
  refine lv_iconst (v := 1) hx hb dL_law_937 (by decide) ?_
  refine lv_iadd hx hb dL_law_938 ?_
  refine va_sld hx hb hX hbl hbA hS (lw_ix hi hL (rg_c (v := 1) (lo := 1) (hi := 1) (by decide)) (by decide)) dL_law_939 ?_
  refine lv_aload_n hx hb dL_law_940 rfl (lv_at hl 3 rfl) ?_
  refine lv_iload_n hx hb dL_law_941 rfl (lv_at hl 0 rfl) ?_
  refine lv_iconst (v := 2) hx hb dL_law_942 (by decide) ?_
  refine lv_iadd hx hb dL_law_943 ?_
  refine va_sld hx hb hX hbl hbA hS (lw_ix hi hL (rg_c (v := 2) (lo := 2) (hi := 2) (by decide)) (by decide)) dL_law_944 ?_
  refine lw_cM (As := [.int (xs ((nI i) + 1).toNatClampNeg), .int (xs ((nI i) + 2).toNatClampNeg)]) (rest := []) ⟨hx, hb, hml, hown, htg⟩ (e_X7_feed l D E G _ ma M n hn hTM (xs ((nI i) + 1).toNatClampNeg) (xs ((nI i) + 2).toNatClampNeg) hR) (cwV 2 htg (oh_gV q_1181 q_1182 q_1183 q_73 q_1184) rfl rfl rfl pdVX7_feed ⟨Nat.le_of_ble_eq_true rfl, Nat.le_of_ble_eq_true rfl⟩) hK hP hD hG hS hA (va_recv hK (oh_suf_P hP) (ci := 7) (q0 := 0) rfl (oh_wg (by omega) (sM_0 hTM))) rfl hl.1 rfl (Nat.le_of_ble_eq_true rfl) dL_law_945 ⟨show cN + 0 ≤ 600000 by omega, show sN + 0 ≤ 7302250 by omega⟩ (fun r_5 M_7 H locs hq_6 hP hD hS => ?_)
  have hTM0 := hTM
  obtain ⟨hTM, f_8, hR, hq_6⟩ := hq_6
  have hkp := kept_fr hkp f_8 (by decide)
  have ht1 : gi (C_3 5) 1 = gi (M_7 0) 7 := by rw [hq_2.2.1, hq_6.2.1, ht10]
  have ht3 : ga (C_3 32) = ga (M_7 7) := by rw [hq_2.2.2, hq_6.2.2, ht30, ht10]
  have htK := htK.m f_8 (by decide)
  have hAM : absM M_7 A0 := absM_fr hAM hTM0 f_8 (by decide) (by decide) (by decide)
  have hUM : absTM M_7 T0 := absTM_eq hUM (f_8.1 14 rfl (by decide)) (congrArg vi (f_8.2 19 (by decide)))
  have hSM : absHM M_7 S0 := hm_fr hSM (f_8.1 1 rfl (by decide)) (f_8.1 2 rfl (by decide)) (f_8.1 3 rfl (by decide)) (f_8.1 6 rfl (by decide))
  refine W.widen (k := cN) (n := sN) (Nat.le_refl _) (Nat.le_refl _) ?_
  refine lv_pop hx hb dL_law_948 rfl ?_
  refine lv_goto (tgt := 2045) hx hb dL_law_949 (by decide) ?_
  exact kk ma C_3 M_7 n (cN) (sN) H locs ls hT hTM hR hkp ht1 ht2 ht3 ⟨_, _, hAX, hAM, hok, hUX, hUM, _, hSX, hSM, hSN⟩ htK (by omega) (by omega) hP hD hS hl

set_option maxHeartbeats 4000000 in
set_option maxRecDepth 100000 in
/-- the law at a call of wipe -/
theorem lc_wipe {p : Program} {e : Env} {s : State} {m : MethodId} {below : List Frame} {meth : Method} {c : Code} (l : Launch) {b L : Nat} {xs : Nat → Int32} (C0 : lw_At p s m meth c b L xs) (hL : L ≤ 4096) {D : va_G} {E : Nat → ClassId} {G : Nat → Nat} {A : Nat → Prop} (hAe : A = fun q => s.heap.size ≤ q) (hK : va_K D vwCl (oh_ty E) s) (hG : oh_G G A s) {a : Nat → Nat} {i : Nat} (hi : i + 8 ≤ L) {ma : Nat → Nat} {C M : Nat → va_E} {n cN sN : Nat} (hT : TyX a E C) (hTM : TyM ma E M) (hR : RelM M) (hkp : KEPT E n ma M) (ht1 : gi (C 5) 1 = gi (M 0) 7) (ht2 : gi (C 0) 2 = 0 ↔ n = 74) (ht3 : ga (C 32) = ga (M 7)) (htA : ∃ (A0 : LA) (T0 : TP), absX 10 C A0 ∧ absM M A0 ∧ okA A0 ∧ absTX 1 16 C T0 ∧ absTM M T0 ∧ ∃ S0 : HZ, absHX C S0 ∧ absHM M S0 ∧ shN (A0 5 0 1) S0) (htK : TIEK n C M) (hcN : cN ≤ 35 + n) (hsN : sN ≤ 1477 + 16 * n) {H : Heap} {locs : List Loc} (hP : va_P D vwCl (oh_W 35 a C ++ oh_W n ma M) H) (hD : va_D A (oh_W 35 a C ++ oh_W n ma M)) (hS : va_S A s.heap H locs) {ls : Array Slot} (hl : lv_has ls 4 [(3, .int (nI i)), (2, .ref (ma 0)), (1, .ref (a 0)), (0, .ref b)]) (kk : ∀ (ma : Nat → Nat) (C M : Nat → va_E) (n cN sN : Nat) (H : Heap) (locs : List Loc) (ls : Array Slot), TyX a E C → TyM ma E M → RelM M → KEPT E n ma M → gi (C 5) 1 = gi (M 0) 7 → (gi (C 0) 2 = 0 ↔ n = 74) → ga (C 32) = ga (M 7) → (∃ (A0 : LA) (T0 : TP), absX 10 C A0 ∧ absM M A0 ∧ okA A0 ∧ absTX 1 16 C T0 ∧ absTM M T0 ∧ ∃ S0 : HZ, absHX C S0 ∧ absHM M S0 ∧ shN (A0 5 0 1) S0) → TIEK n C M → cN ≤ 35 + n → sN ≤ 1477 + 16 * n → va_P D vwCl (oh_W 35 a C ++ oh_W n ma M) H → va_D A (oh_W 35 a C ++ oh_W n ma M) → va_S A s.heap H locs → lv_has ls 4 [(3, .int (nI i)), (2, .ref (ma 0)), (1, .ref (a 0)), (0, .ref b)] → W p l e room_1 s m #[Value.ref b] below meth c H locs cN sN (lw_Z below #[Value.ref b] s) (F0 m 2045 ls [])) : W p l e room_1 s m #[Value.ref b] below meth c H locs cN sN (lw_Z below #[Value.ref b] s) (F0 m 952 ls []) := by
  obtain ⟨hx, hb, hr, hml, hown, hts, hX, hbl, hlocks, hgv⟩ := id C0
  have hown : s.vm.findClass RL = some m.cls := hown
  have htg : ∀ w ∈ oh_t, w.before _ s = true := fun w h => hts w (List.mem_filter.mp h).1
  have hA : ∀ q, s.heap.size ≤ q → A q := fun q h => by rw [hAe]; exact h
  have hbA : ¬ A b := by rw [hAe]; exact Nat.not_le.mpr hbl
  have hn := hkp.le.1
  have hn8 := hkp.le.2
  have ht10 := ht1
  have ht20 := ht2
  have ht30 := ht3
  obtain ⟨A0, T0, hAX, hAM, hok, hUX, hUM, S0, hSX, hSM, hSN⟩ := htA
  have hAX0 := hAX
  have hAM0 := hAM
  have htK0 := htK
  have hSX0 := hSX
  have hSM0 := hSM
  have hSN0 := hSN
  have hUX0 := hUX
  have hok0 := hok
  refine lv_aload_n hx hb dL_law_952 rfl (lv_at hl 2 rfl) ?_
  refine lw_cX (As := []) (rest := []) ⟨hx, hb, hml, hown, htg⟩ (c_X6_wipe l D E G _ a C hT) (cwV 0 htg (oh_gV q_491 q_492 q_493 q_66 q_494) rfl rfl rfl pdVX6_wipe ⟨Nat.le_of_ble_eq_true rfl, Nat.le_of_ble_eq_true rfl⟩) hK hP hD hG hS hA (va_recv hK (oh_pre_P hP) (ci := 6) (q0 := 0) rfl (oh_wg (by decide) (sX_0 hT))) rfl hl.1 rfl (Nat.le_of_ble_eq_true rfl) dL_law_953 ⟨show cN + 0 ≤ 600000 by omega, show sN + 0 ≤ 7302250 by omega⟩ (fun r_1 C_3 H locs hq_2 hP hD hS => ?_)
  obtain ⟨hT, f_4, hq_2⟩ := hq_2
  have ht2 : gi (C_3 0) 2 = 0 ↔ n = 74 := by rw [show gi (C_3 0) 2 = gi (C 0) 2 from congrArg vi (f_4.2 2 (by decide))]; exact ht2
  have ht3 : ga (C_3 32) = ga (M 7) := Eq.trans (congrArg ga (f_4.1 32 rfl (by decide))) ht3
  have htK := htK.x (fr_all f_4 17 23 (by decide)) (f_4.1 2 rfl (by decide))
  have hAX : absX 10 C_3 A0 := absX_eq hAX (fun k k1 k2 => fr_all f_4 10 15 (by decide) k k1 (by omega))
  have hUX : absTX 1 16 C_3 T0 := absTX_eq hUX (congrArg (fun z => gi z 7) (f_4.1 1 rfl (by decide))) (f_4.1 16 rfl (by decide))
  have hSX : absHX C_3 S0 := hx_fr hSX (f_4.1 29 rfl (by decide)) (f_4.1 30 rfl (by decide))
  refine W.widen (k := cN) (n := sN) (Nat.le_refl _) (Nat.le_refl _) ?_
  refine lv_pop hx hb dL_law_956 rfl ?_
  refine lv_aload_n hx hb dL_law_957 rfl (lv_at hl 1 rfl) ?_
  refine lw_cM (As := []) (rest := []) ⟨hx, hb, hml, hown, htg⟩ (c_X7_wipe l D E G _ ma M n hn hTM hR) (cwV 0 htg (oh_gV q_1185 q_1186 q_1187 q_73 q_1188) rfl rfl rfl pdVX7_wipe ⟨Nat.le_of_ble_eq_true rfl, Nat.le_of_ble_eq_true rfl⟩) hK hP hD hG hS hA (va_recv hK (oh_suf_P hP) (ci := 7) (q0 := 0) rfl (oh_wg (by omega) (sM_0 hTM))) rfl hl.1 rfl (Nat.le_of_ble_eq_true rfl) dL_law_958 ⟨show cN + 0 ≤ 600000 by omega, show sN + 0 ≤ 7302250 by omega⟩ (fun r_5 M_7 H locs hq_6 hP hD hS => ?_)
  have hTM0 := hTM
  obtain ⟨hTM, f_8, hR, hq_6⟩ := hq_6
  have hkp := kept_fr hkp f_8 (by decide)
  have ht1 : gi (C_3 5) 1 = gi (M_7 0) 7 := Eq.trans hq_2.2 (Eq.symm hq_6.2)
  have ht3 : ga (C_3 32) = ga (M_7 7) := Eq.trans ht3 (congrArg ga (f_8.1 7 rfl (by decide))).symm
  have htK := htK.m f_8 (by decide)
  have hAM : absM M_7 A0 := absM_fr hAM hTM0 f_8 (by decide) (by decide) (by decide)
  have hUM : absTM M_7 T0 := absTM_eq hUM (f_8.1 14 rfl (by decide)) (congrArg vi (f_8.2 19 (by decide)))
  have hSM : absHM M_7 S0 := hm_fr hSM (f_8.1 1 rfl (by decide)) (f_8.1 2 rfl (by decide)) (f_8.1 3 rfl (by decide)) (f_8.1 6 rfl (by decide))
  refine W.widen (k := cN) (n := sN) (Nat.le_refl _) (Nat.le_refl _) ?_
  refine lv_pop hx hb dL_law_961 rfl ?_
  refine lv_goto (tgt := 2045) hx hb dL_law_962 (by decide) ?_
  exact kk ma C_3 M_7 n (cN) (sN) H locs ls hT hTM hR hkp ht1 ht2 ht3 ⟨_, _, hAX, hAM, hok, hUX, hUM, _, hSX, hSM, hSN⟩ htK (by omega) (by omega) hP hD hS hl

set_option maxHeartbeats 4000000 in
set_option maxRecDepth 100000 in
/-- the law at a call of land -/
theorem lc_land {p : Program} {e : Env} {s : State} {m : MethodId} {below : List Frame} {meth : Method} {c : Code} (l : Launch) {b L : Nat} {xs : Nat → Int32} (C0 : lw_At p s m meth c b L xs) (hL : L ≤ 4096) {D : va_G} {E : Nat → ClassId} {G : Nat → Nat} {A : Nat → Prop} (hAe : A = fun q => s.heap.size ≤ q) (hK : va_K D vwCl (oh_ty E) s) (hG : oh_G G A s) {a : Nat → Nat} {i : Nat} (hi : i + 8 ≤ L) {ma : Nat → Nat} {C M : Nat → va_E} {n cN sN : Nat} (hT : TyX a E C) (hTM : TyM ma E M) (hR : RelM M) (hkp : KEPT E n ma M) (ht1 : gi (C 5) 1 = gi (M 0) 7) (ht2 : gi (C 0) 2 = 0 ↔ n = 74) (ht3 : ga (C 32) = ga (M 7)) (htA : ∃ (A0 : LA) (T0 : TP), absX 10 C A0 ∧ absM M A0 ∧ okA A0 ∧ absTX 1 16 C T0 ∧ absTM M T0 ∧ ∃ S0 : HZ, absHX C S0 ∧ absHM M S0 ∧ shN (A0 5 0 1) S0) (htK : TIEK n C M) (hcN : cN ≤ 35 + n) (hsN : sN ≤ 1477 + 16 * n) {H : Heap} {locs : List Loc} (hP : va_P D vwCl (oh_W 35 a C ++ oh_W n ma M) H) (hD : va_D A (oh_W 35 a C ++ oh_W n ma M)) (hS : va_S A s.heap H locs) {ls : Array Slot} (hl : lv_has ls 4 [(3, .int (nI i)), (2, .ref (ma 0)), (1, .ref (a 0)), (0, .ref b)]) (kk : ∀ (ma : Nat → Nat) (C M : Nat → va_E) (n cN sN : Nat) (H : Heap) (locs : List Loc) (ls : Array Slot), TyX a E C → TyM ma E M → RelM M → KEPT E n ma M → gi (C 5) 1 = gi (M 0) 7 → (gi (C 0) 2 = 0 ↔ n = 74) → ga (C 32) = ga (M 7) → (∃ (A0 : LA) (T0 : TP), absX 10 C A0 ∧ absM M A0 ∧ okA A0 ∧ absTX 1 16 C T0 ∧ absTM M T0 ∧ ∃ S0 : HZ, absHX C S0 ∧ absHM M S0 ∧ shN (A0 5 0 1) S0) → TIEK n C M → cN ≤ 35 + n → sN ≤ 1477 + 16 * n → va_P D vwCl (oh_W 35 a C ++ oh_W n ma M) H → va_D A (oh_W 35 a C ++ oh_W n ma M) → va_S A s.heap H locs → lv_has ls 4 [(3, .int (nI i)), (2, .ref (ma 0)), (1, .ref (a 0)), (0, .ref b)] → W p l e room_1 s m #[Value.ref b] below meth c H locs cN sN (lw_Z below #[Value.ref b] s) (F0 m 2045 ls [])) : W p l e room_1 s m #[Value.ref b] below meth c H locs cN sN (lw_Z below #[Value.ref b] s) (F0 m 965 ls []) := by
  obtain ⟨hx, hb, hr, hml, hown, hts, hX, hbl, hlocks, hgv⟩ := id C0
  have hown : s.vm.findClass RL = some m.cls := hown
  have htg : ∀ w ∈ oh_t, w.before _ s = true := fun w h => hts w (List.mem_filter.mp h).1
  have hA : ∀ q, s.heap.size ≤ q → A q := fun q h => by rw [hAe]; exact h
  have hbA : ¬ A b := by rw [hAe]; exact Nat.not_le.mpr hbl
  have hn := hkp.le.1
  have hn8 := hkp.le.2
  have ht10 := ht1
  have ht20 := ht2
  have ht30 := ht3
  obtain ⟨A0, T0, hAX, hAM, hok, hUX, hUM, S0, hSX, hSM, hSN⟩ := htA
  have hAX0 := hAX
  have hAM0 := hAM
  have htK0 := htK
  have hSX0 := hSX
  have hSM0 := hSM
  have hSN0 := hSN
  have hUX0 := hUX
  have hok0 := hok
  refine lv_aload_n hx hb dL_law_965 rfl (lv_at hl 2 rfl) ?_
  refine lw_cX (As := []) (rest := []) ⟨hx, hb, hml, hown, htg⟩ (e_X6_land l D E G _ a C hT) (cwV 0 htg (oh_gV q_495 q_496 q_497 q_66 q_498) rfl rfl rfl pdVX6_land ⟨Nat.le_of_ble_eq_true rfl, Nat.le_of_ble_eq_true rfl⟩) hK hP hD hG hS hA (va_recv hK (oh_pre_P hP) (ci := 6) (q0 := 0) rfl (oh_wg (by decide) (sX_0 hT))) rfl hl.1 rfl (Nat.le_of_ble_eq_true rfl) dL_law_966 ⟨show cN + 0 ≤ 600000 by omega, show sN + 0 ≤ 7302250 by omega⟩ (fun r_1 C_3 H locs hq_2 hP hD hS => ?_)
  obtain ⟨hT, f_4, hq_2⟩ := hq_2
  have ht2 : gi (C_3 0) 2 = 0 ↔ n = 74 := by rw [show gi (C_3 0) 2 = gi (C 0) 2 from congrArg vi (f_4.2 2 (by decide))]; exact ht2
  have ht3 : ga (C_3 32) = ga (M 7) := Eq.trans (congrArg ga (f_4.1 32 rfl (by decide))) ht3
  have htK := htK.x (fr_all f_4 17 23 (by decide)) (f_4.1 2 rfl (by decide))
  obtain ⟨B1, hL_5, hAX⟩ := hq_2.2 A0 hAX
  rw [ht30, ht10] at hL_5
  have hUX : absTX 1 16 C_3 T0 := absTX_eq hUX (congrArg (fun z => gi z 7) (f_4.1 1 rfl (by decide))) (f_4.1 16 rfl (by decide))
  have hSX : absHX C_3 S0 := hx_fr hSX (f_4.1 29 rfl (by decide)) (f_4.1 30 rfl (by decide))
  refine W.widen (k := cN) (n := sN) (Nat.le_refl _) (Nat.le_refl _) ?_
  refine lv_pop hx hb dL_law_969 rfl ?_
  refine lv_aload_n hx hb dL_law_970 rfl (lv_at hl 1 rfl) ?_
  refine lw_cM (As := []) (rest := []) ⟨hx, hb, hml, hown, htg⟩ (e_X7_land l D E G _ ma M n hn hTM hR) (cwV 0 htg (oh_gV q_1189 q_1190 q_1191 q_73 q_1192) rfl rfl rfl pdVX7_land ⟨Nat.le_of_ble_eq_true rfl, Nat.le_of_ble_eq_true rfl⟩) hK hP hD hG hS hA (va_recv hK (oh_suf_P hP) (ci := 7) (q0 := 0) rfl (oh_wg (by omega) (sM_0 hTM))) rfl hl.1 rfl (Nat.le_of_ble_eq_true rfl) dL_law_971 ⟨show cN + 0 ≤ 600000 by omega, show sN + 0 ≤ 7302250 by omega⟩ (fun r_6 M_8 H locs hq_7 hP hD hS => ?_)
  have hTM0 := hTM
  obtain ⟨hTM, f_9, hR, hq_7⟩ := hq_7
  have hkp := kept_fr hkp f_9 (by decide)
  have ht1 : gi (C_3 5) 1 = gi (M_8 0) 7 := Eq.trans hq_2.1 (Eq.symm hq_7.1)
  have ht3 : ga (C_3 32) = ga (M_8 7) := Eq.trans ht3 (congrArg ga (f_9.1 7 rfl (by decide))).symm
  have htK := htK.m f_9 (by decide)
  obtain ⟨B2, hL_10, hAM⟩ := hq_7.2 A0 hAM
  obtain ⟨hB_11, hBB⟩ := landR_u hL_5 hL_10
  subst hBB
  have hok := ok_land hok hL_5
  have hSN := sn_up2 hok hSN (by exact cn_land hok0 hL_5)
  have hUM : absTM M_8 T0 := absTM_eq hUM (f_9.1 14 rfl (by decide)) (congrArg vi (f_9.2 19 (by decide)))
  have hSM : absHM M_8 S0 := hm_fr hSM (f_9.1 1 rfl (by decide)) (f_9.1 2 rfl (by decide)) (f_9.1 3 rfl (by decide)) (f_9.1 6 rfl (by decide))
  refine W.widen (k := cN) (n := sN) (Nat.le_refl _) (Nat.le_refl _) ?_
  refine lv_pop hx hb dL_law_974 rfl ?_
  refine lv_goto (tgt := 2045) hx hb dL_law_975 (by decide) ?_
  exact kk ma C_3 M_8 n (cN) (sN) H locs ls hT hTM hR hkp ht1 ht2 ht3 ⟨_, _, hAX, hAM, hok, hUX, hUM, _, hSX, hSM, hSN⟩ htK (by omega) (by omega) hP hD hS hl

set_option maxHeartbeats 4000000 in
set_option maxRecDepth 100000 in
/-- the law at a call of roadOf -/
theorem lc_roadOf {p : Program} {e : Env} {s : State} {m : MethodId} {below : List Frame} {meth : Method} {c : Code} (l : Launch) {b L : Nat} {xs : Nat → Int32} (C0 : lw_At p s m meth c b L xs) (hL : L ≤ 4096) {D : va_G} {E : Nat → ClassId} {G : Nat → Nat} {A : Nat → Prop} (hAe : A = fun q => s.heap.size ≤ q) (hK : va_K D vwCl (oh_ty E) s) (hG : oh_G G A s) {a : Nat → Nat} {i : Nat} (hi : i + 8 ≤ L) {ma : Nat → Nat} {C M : Nat → va_E} {n cN sN : Nat} (hT : TyX a E C) (hTM : TyM ma E M) (hR : RelM M) (hkp : KEPT E n ma M) (ht1 : gi (C 5) 1 = gi (M 0) 7) (ht2 : gi (C 0) 2 = 0 ↔ n = 74) (ht3 : ga (C 32) = ga (M 7)) (htA : ∃ (A0 : LA) (T0 : TP), absX 10 C A0 ∧ absM M A0 ∧ okA A0 ∧ absTX 1 16 C T0 ∧ absTM M T0 ∧ ∃ S0 : HZ, absHX C S0 ∧ absHM M S0 ∧ shN (A0 5 0 1) S0) (htK : TIEK n C M) (hcN : cN ≤ 35 + n) (hsN : sN ≤ 1477 + 16 * n) {H : Heap} {locs : List Loc} (hP : va_P D vwCl (oh_W 35 a C ++ oh_W n ma M) H) (hD : va_D A (oh_W 35 a C ++ oh_W n ma M)) (hS : va_S A s.heap H locs) {ls : Array Slot} (hl : lv_has ls 4 [(3, .int (nI i)), (2, .ref (ma 0)), (1, .ref (a 0)), (0, .ref b)]) (kk : ∀ (ma : Nat → Nat) (C M : Nat → va_E) (n cN sN : Nat) (H : Heap) (locs : List Loc) (ls : Array Slot), TyX a E C → TyM ma E M → RelM M → KEPT E n ma M → gi (C 5) 1 = gi (M 0) 7 → (gi (C 0) 2 = 0 ↔ n = 74) → ga (C 32) = ga (M 7) → (∃ (A0 : LA) (T0 : TP), absX 10 C A0 ∧ absM M A0 ∧ okA A0 ∧ absTX 1 16 C T0 ∧ absTM M T0 ∧ ∃ S0 : HZ, absHX C S0 ∧ absHM M S0 ∧ shN (A0 5 0 1) S0) → TIEK n C M → cN ≤ 35 + n → sN ≤ 1477 + 16 * n → va_P D vwCl (oh_W 35 a C ++ oh_W n ma M) H → va_D A (oh_W 35 a C ++ oh_W n ma M) → va_S A s.heap H locs → lv_has ls 4 [(3, .int (nI i)), (2, .ref (ma 0)), (1, .ref (a 0)), (0, .ref b)] → W p l e room_1 s m #[Value.ref b] below meth c H locs cN sN (lw_Z below #[Value.ref b] s) (F0 m 2045 ls [])) : W p l e room_1 s m #[Value.ref b] below meth c H locs cN sN (lw_Z below #[Value.ref b] s) (F0 m 978 ls []) := by
  obtain ⟨hx, hb, hr, hml, hown, hts, hX, hbl, hlocks, hgv⟩ := id C0
  have hown : s.vm.findClass RL = some m.cls := hown
  have htg : ∀ w ∈ oh_t, w.before _ s = true := fun w h => hts w (List.mem_filter.mp h).1
  have hA : ∀ q, s.heap.size ≤ q → A q := fun q h => by rw [hAe]; exact h
  have hbA : ¬ A b := by rw [hAe]; exact Nat.not_le.mpr hbl
  have hn := hkp.le.1
  have hn8 := hkp.le.2
  have ht10 := ht1
  have ht20 := ht2
  have ht30 := ht3
  obtain ⟨A0, T0, hAX, hAM, hok, hUX, hUM, S0, hSX, hSM, hSN⟩ := htA
  have hAX0 := hAX
  have hAM0 := hAM
  have htK0 := htK
  have hSX0 := hSX
  have hSM0 := hSM
  have hSN0 := hSN
  have hUX0 := hUX
  have hok0 := hok
  refine lv_aload_n hx hb dL_law_978 rfl (lv_at hl 2 rfl) ?_
  refine lv_aload_n hx hb dL_law_979 rfl (lv_at hl 3 rfl) ?_
  refine lv_iload_n hx hb dL_law_980 rfl (lv_at hl 0 rfl) ?_
  refine lv_iconst (v := 1) hx hb dL_law_981 (by decide) ?_
  refine lv_iadd hx hb dL_law_982 ?_
  refine va_sld hx hb hX hbl hbA hS (lw_ix hi hL (rg_c (v := 1) (lo := 1) (hi := 1) (by decide)) (by decide)) dL_law_983 ?_
  refine lv_aload_n hx hb dL_law_984 rfl (lv_at hl 3 rfl) ?_
  refine lv_iload_n hx hb dL_law_985 rfl (lv_at hl 0 rfl) ?_
  refine lv_iconst (v := 2) hx hb dL_law_986 (by decide) ?_
  refine lv_iadd hx hb dL_law_987 ?_
  refine va_sld hx hb hX hbl hbA hS (lw_ix hi hL (rg_c (v := 2) (lo := 2) (hi := 2) (by decide)) (by decide)) dL_law_988 ?_
  refine lw_cX (As := [.int (xs ((nI i) + 1).toNatClampNeg), .int (xs ((nI i) + 2).toNatClampNeg)]) (rest := []) ⟨hx, hb, hml, hown, htg⟩ (e_X6_roadOf l D E G _ a C hT (xs ((nI i) + 1).toNatClampNeg) (xs ((nI i) + 2).toNatClampNeg)) (cwV 2 htg (oh_gV q_663 q_664 q_665 q_66 q_666) rfl rfl rfl pdVX6_roadOf ⟨Nat.le_of_ble_eq_true rfl, Nat.le_of_ble_eq_true rfl⟩) hK hP hD hG hS hA (va_recv hK (oh_pre_P hP) (ci := 6) (q0 := 0) rfl (oh_wg (by decide) (sX_0 hT))) rfl hl.1 rfl (Nat.le_of_ble_eq_true rfl) dL_law_989 ⟨show cN + 0 ≤ 600000 by omega, show sN + 0 ≤ 7302250 by omega⟩ (fun r_1 C_3 H locs hq_2 hP hD hS => ?_)
  obtain ⟨hT, f_4, hq_2⟩ := hq_2
  have ht1 : gi (C_3 5) 1 = gi (M 0) 7 := by rw [f_4.1 5 rfl (by decide)]; exact ht1
  have ht2 : gi (C_3 0) 2 = 0 ↔ n = 74 := by rw [show gi (C_3 0) 2 = gi (C 0) 2 from congrArg vi (f_4.2 2 (by decide))]; exact ht2
  have ht3 : ga (C_3 32) = ga (M 7) := Eq.trans (congrArg ga (f_4.1 32 rfl (by decide))) ht3
  have htK := htK.x (fr_all f_4 17 23 (by decide)) (f_4.1 2 rfl (by decide))
  have hX_5 := hq_2 A0 hAX0
  have hAX : absX 10 C_3 A0 := absX_eq hAX (fun k k1 k2 => fr_all f_4 10 15 (by decide) k k1 (by omega))
  have hUX : absTX 1 16 C_3 T0 := absTX_eq hUX (congrArg (fun z => gi z 7) (f_4.1 1 rfl (by decide))) (f_4.1 16 rfl (by decide))
  have hSX : absHX C_3 S0 := hx_fr hSX (f_4.1 29 rfl (by decide)) (f_4.1 30 rfl (by decide))
  refine W.widen (k := cN) (n := sN) (Nat.le_refl _) (Nat.le_refl _) ?_
  refine lv_pop hx hb dL_law_992 rfl ?_
  refine lv_aload_n hx hb dL_law_993 rfl (lv_at hl 1 rfl) ?_
  refine lv_aload_n hx hb dL_law_994 rfl (lv_at hl 3 rfl) ?_
  refine lv_iload_n hx hb dL_law_995 rfl (lv_at hl 0 rfl) ?_
  refine lv_iconst (v := 1) hx hb dL_law_996 (by decide) ?_
  refine lv_iadd hx hb dL_law_997 ?_
  refine va_sld hx hb hX hbl hbA hS (lw_ix hi hL (rg_c (v := 1) (lo := 1) (hi := 1) (by decide)) (by decide)) dL_law_998 ?_
  refine lv_aload_n hx hb dL_law_999 rfl (lv_at hl 3 rfl) ?_
  refine lv_iload_n hx hb dL_law_1000 rfl (lv_at hl 0 rfl) ?_
  refine lv_iconst (v := 2) hx hb dL_law_1001 (by decide) ?_
  refine lv_iadd hx hb dL_law_1002 ?_
  refine va_sld hx hb hX hbl hbA hS (lw_ix hi hL (rg_c (v := 2) (lo := 2) (hi := 2) (by decide)) (by decide)) dL_law_1003 ?_
  refine lw_cM (As := [.int (xs ((nI i) + 1).toNatClampNeg), .int (xs ((nI i) + 2).toNatClampNeg)]) (rest := []) ⟨hx, hb, hml, hown, htg⟩ (e_X7_roadOf l D E G _ ma M n hn hTM (xs ((nI i) + 1).toNatClampNeg) (xs ((nI i) + 2).toNatClampNeg) hR) (cwV 2 htg (oh_gV q_1261 q_1262 q_1263 q_73 q_1264) rfl rfl rfl pdVX7_roadOf ⟨Nat.le_of_ble_eq_true rfl, Nat.le_of_ble_eq_true rfl⟩) hK hP hD hG hS hA (va_recv hK (oh_suf_P hP) (ci := 7) (q0 := 0) rfl (oh_wg (by omega) (sM_0 hTM))) rfl hl.1 rfl (Nat.le_of_ble_eq_true rfl) dL_law_1004 ⟨show cN + 0 ≤ 600000 by omega, show sN + 0 ≤ 7302250 by omega⟩ (fun r_6 M_8 H locs hq_7 hP hD hS => ?_)
  have hTM0 := hTM
  obtain ⟨hTM, f_9, hR, hq_7⟩ := hq_7
  have hkp := kept_fr hkp f_9 (by decide)
  have ht1 : gi (C_3 5) 1 = gi (M_8 0) 7 := by rw [show gi (M_8 0) 7 = gi (M 0) 7 from congrArg vi (f_9.2 7 (by decide))]; exact ht1
  have ht3 : ga (C_3 32) = ga (M_8 7) := Eq.trans ht3 (congrArg ga (f_9.1 7 rfl (by decide))).symm
  have htK := htK.m f_9 (by decide)
  have hM_10 := hq_7 A0 hAM0
  have hAM : absM M_8 A0 := absM_fr hAM hTM0 f_9 (by decide) (by decide) (by decide)
  have hUM : absTM M_8 T0 := absTM_eq hUM (f_9.1 14 rfl (by decide)) (congrArg vi (f_9.2 19 (by decide)))
  have hSM : absHM M_8 S0 := hm_fr hSM (f_9.1 1 rfl (by decide)) (f_9.1 2 rfl (by decide)) (f_9.1 3 rfl (by decide)) (f_9.1 6 rfl (by decide))
  refine W.widen (k := cN) (n := sN) (Nat.le_refl _) (Nat.le_refl _) ?_
  refine lv_pop hx hb dL_law_1007 rfl ?_
  refine lv_goto (tgt := 2045) hx hb dL_law_1008 (by decide) ?_
  exact kk ma C_3 M_8 n (cN) (sN) H locs ls hT hTM hR hkp ht1 ht2 ht3 ⟨_, _, hAX, hAM, hok, hUX, hUM, _, hSX, hSM, hSN⟩ htK (by omega) (by omega) hP hD hS hl

set_option maxHeartbeats 4000000 in
set_option maxRecDepth 100000 in
/-- the law at a call of bridgeOf -/
theorem lc_bridgeOf {p : Program} {e : Env} {s : State} {m : MethodId} {below : List Frame} {meth : Method} {c : Code} (l : Launch) {b L : Nat} {xs : Nat → Int32} (C0 : lw_At p s m meth c b L xs) (hL : L ≤ 4096) {D : va_G} {E : Nat → ClassId} {G : Nat → Nat} {A : Nat → Prop} (hAe : A = fun q => s.heap.size ≤ q) (hK : va_K D vwCl (oh_ty E) s) (hG : oh_G G A s) {a : Nat → Nat} {i : Nat} (hi : i + 8 ≤ L) {ma : Nat → Nat} {C M : Nat → va_E} {n cN sN : Nat} (hT : TyX a E C) (hTM : TyM ma E M) (hR : RelM M) (hkp : KEPT E n ma M) (ht1 : gi (C 5) 1 = gi (M 0) 7) (ht2 : gi (C 0) 2 = 0 ↔ n = 74) (ht3 : ga (C 32) = ga (M 7)) (htA : ∃ (A0 : LA) (T0 : TP), absX 10 C A0 ∧ absM M A0 ∧ okA A0 ∧ absTX 1 16 C T0 ∧ absTM M T0 ∧ ∃ S0 : HZ, absHX C S0 ∧ absHM M S0 ∧ shN (A0 5 0 1) S0) (htK : TIEK n C M) (hcN : cN ≤ 35 + n) (hsN : sN ≤ 1477 + 16 * n) {H : Heap} {locs : List Loc} (hP : va_P D vwCl (oh_W 35 a C ++ oh_W n ma M) H) (hD : va_D A (oh_W 35 a C ++ oh_W n ma M)) (hS : va_S A s.heap H locs) {ls : Array Slot} (hl : lv_has ls 4 [(3, .int (nI i)), (2, .ref (ma 0)), (1, .ref (a 0)), (0, .ref b)]) (kk : ∀ (ma : Nat → Nat) (C M : Nat → va_E) (n cN sN : Nat) (H : Heap) (locs : List Loc) (ls : Array Slot), TyX a E C → TyM ma E M → RelM M → KEPT E n ma M → gi (C 5) 1 = gi (M 0) 7 → (gi (C 0) 2 = 0 ↔ n = 74) → ga (C 32) = ga (M 7) → (∃ (A0 : LA) (T0 : TP), absX 10 C A0 ∧ absM M A0 ∧ okA A0 ∧ absTX 1 16 C T0 ∧ absTM M T0 ∧ ∃ S0 : HZ, absHX C S0 ∧ absHM M S0 ∧ shN (A0 5 0 1) S0) → TIEK n C M → cN ≤ 35 + n → sN ≤ 1477 + 16 * n → va_P D vwCl (oh_W 35 a C ++ oh_W n ma M) H → va_D A (oh_W 35 a C ++ oh_W n ma M) → va_S A s.heap H locs → lv_has ls 4 [(3, .int (nI i)), (2, .ref (ma 0)), (1, .ref (a 0)), (0, .ref b)] → W p l e room_1 s m #[Value.ref b] below meth c H locs cN sN (lw_Z below #[Value.ref b] s) (F0 m 2045 ls [])) : W p l e room_1 s m #[Value.ref b] below meth c H locs cN sN (lw_Z below #[Value.ref b] s) (F0 m 1011 ls []) := by
  obtain ⟨hx, hb, hr, hml, hown, hts, hX, hbl, hlocks, hgv⟩ := id C0
  have hown : s.vm.findClass RL = some m.cls := hown
  have htg : ∀ w ∈ oh_t, w.before _ s = true := fun w h => hts w (List.mem_filter.mp h).1
  have hA : ∀ q, s.heap.size ≤ q → A q := fun q h => by rw [hAe]; exact h
  have hbA : ¬ A b := by rw [hAe]; exact Nat.not_le.mpr hbl
  have hn := hkp.le.1
  have hn8 := hkp.le.2
  have ht10 := ht1
  have ht20 := ht2
  have ht30 := ht3
  obtain ⟨A0, T0, hAX, hAM, hok, hUX, hUM, S0, hSX, hSM, hSN⟩ := htA
  have hAX0 := hAX
  have hAM0 := hAM
  have htK0 := htK
  have hSX0 := hSX
  have hSM0 := hSM
  have hSN0 := hSN
  have hUX0 := hUX
  have hok0 := hok
  refine lv_aload_n hx hb dL_law_1011 rfl (lv_at hl 2 rfl) ?_
  refine lv_aload_n hx hb dL_law_1012 rfl (lv_at hl 3 rfl) ?_
  refine lv_iload_n hx hb dL_law_1013 rfl (lv_at hl 0 rfl) ?_
  refine lv_iconst (v := 1) hx hb dL_law_1014 (by decide) ?_
  refine lv_iadd hx hb dL_law_1015 ?_
  refine va_sld hx hb hX hbl hbA hS (lw_ix hi hL (rg_c (v := 1) (lo := 1) (hi := 1) (by decide)) (by decide)) dL_law_1016 ?_
  refine lv_aload_n hx hb dL_law_1017 rfl (lv_at hl 3 rfl) ?_
  refine lv_iload_n hx hb dL_law_1018 rfl (lv_at hl 0 rfl) ?_
  refine lv_iconst (v := 2) hx hb dL_law_1019 (by decide) ?_
  refine lv_iadd hx hb dL_law_1020 ?_
  refine va_sld hx hb hX hbl hbA hS (lw_ix hi hL (rg_c (v := 2) (lo := 2) (hi := 2) (by decide)) (by decide)) dL_law_1021 ?_
  refine lw_cX (As := [.int (xs ((nI i) + 1).toNatClampNeg), .int (xs ((nI i) + 2).toNatClampNeg)]) (rest := []) ⟨hx, hb, hml, hown, htg⟩ (e_X6_bridgeOf l D E G _ a C hT (xs ((nI i) + 1).toNatClampNeg) (xs ((nI i) + 2).toNatClampNeg)) (cwV 2 htg (oh_gV q_667 q_668 q_669 q_66 q_670) rfl rfl rfl pdVX6_bridgeOf ⟨Nat.le_of_ble_eq_true rfl, Nat.le_of_ble_eq_true rfl⟩) hK hP hD hG hS hA (va_recv hK (oh_pre_P hP) (ci := 6) (q0 := 0) rfl (oh_wg (by decide) (sX_0 hT))) rfl hl.1 rfl (Nat.le_of_ble_eq_true rfl) dL_law_1022 ⟨show cN + 0 ≤ 600000 by omega, show sN + 0 ≤ 7302250 by omega⟩ (fun r_1 C_3 H locs hq_2 hP hD hS => ?_)
  obtain ⟨hT, f_4, hq_2⟩ := hq_2
  have ht1 : gi (C_3 5) 1 = gi (M 0) 7 := by rw [f_4.1 5 rfl (by decide)]; exact ht1
  have ht2 : gi (C_3 0) 2 = 0 ↔ n = 74 := by rw [show gi (C_3 0) 2 = gi (C 0) 2 from congrArg vi (f_4.2 2 (by decide))]; exact ht2
  have ht3 : ga (C_3 32) = ga (M 7) := Eq.trans (congrArg ga (f_4.1 32 rfl (by decide))) ht3
  have htK := htK.x (fr_all f_4 17 23 (by decide)) (f_4.1 2 rfl (by decide))
  have hX_5 := hq_2 A0 hAX0 hok
  have hAX : absX 10 C_3 A0 := absX_eq hAX (fun k k1 k2 => fr_all f_4 10 15 (by decide) k k1 (by omega))
  have hUX : absTX 1 16 C_3 T0 := absTX_eq hUX (congrArg (fun z => gi z 7) (f_4.1 1 rfl (by decide))) (f_4.1 16 rfl (by decide))
  have hSX : absHX C_3 S0 := hx_fr hSX (f_4.1 29 rfl (by decide)) (f_4.1 30 rfl (by decide))
  refine W.widen (k := cN) (n := sN) (Nat.le_refl _) (Nat.le_refl _) ?_
  refine lv_pop hx hb dL_law_1025 rfl ?_
  refine lv_aload_n hx hb dL_law_1026 rfl (lv_at hl 1 rfl) ?_
  refine lv_aload_n hx hb dL_law_1027 rfl (lv_at hl 3 rfl) ?_
  refine lv_iload_n hx hb dL_law_1028 rfl (lv_at hl 0 rfl) ?_
  refine lv_iconst (v := 1) hx hb dL_law_1029 (by decide) ?_
  refine lv_iadd hx hb dL_law_1030 ?_
  refine va_sld hx hb hX hbl hbA hS (lw_ix hi hL (rg_c (v := 1) (lo := 1) (hi := 1) (by decide)) (by decide)) dL_law_1031 ?_
  refine lv_aload_n hx hb dL_law_1032 rfl (lv_at hl 3 rfl) ?_
  refine lv_iload_n hx hb dL_law_1033 rfl (lv_at hl 0 rfl) ?_
  refine lv_iconst (v := 2) hx hb dL_law_1034 (by decide) ?_
  refine lv_iadd hx hb dL_law_1035 ?_
  refine va_sld hx hb hX hbl hbA hS (lw_ix hi hL (rg_c (v := 2) (lo := 2) (hi := 2) (by decide)) (by decide)) dL_law_1036 ?_
  refine lw_cM (As := [.int (xs ((nI i) + 1).toNatClampNeg), .int (xs ((nI i) + 2).toNatClampNeg)]) (rest := []) ⟨hx, hb, hml, hown, htg⟩ (e_X7_bridgeOf l D E G _ ma M n hn hTM (xs ((nI i) + 1).toNatClampNeg) (xs ((nI i) + 2).toNatClampNeg) hR) (cwV 2 htg (oh_gV q_1266 q_1267 q_1268 q_73 q_1269) rfl rfl rfl pdVX7_bridgeOf ⟨Nat.le_of_ble_eq_true rfl, Nat.le_of_ble_eq_true rfl⟩) hK hP hD hG hS hA (va_recv hK (oh_suf_P hP) (ci := 7) (q0 := 0) rfl (oh_wg (by omega) (sM_0 hTM))) rfl hl.1 rfl (Nat.le_of_ble_eq_true rfl) dL_law_1037 ⟨show cN + 0 ≤ 600000 by omega, show sN + 0 ≤ 7302250 by omega⟩ (fun r_6 M_8 H locs hq_7 hP hD hS => ?_)
  have hTM0 := hTM
  obtain ⟨hTM, f_9, hR, hq_7⟩ := hq_7
  have hkp := kept_fr hkp f_9 (by decide)
  have ht1 : gi (C_3 5) 1 = gi (M_8 0) 7 := by rw [show gi (M_8 0) 7 = gi (M 0) 7 from congrArg vi (f_9.2 7 (by decide))]; exact ht1
  have ht3 : ga (C_3 32) = ga (M_8 7) := Eq.trans ht3 (congrArg ga (f_9.1 7 rfl (by decide))).symm
  have htK := htK.m f_9 (by decide)
  have hM_10 := hq_7 A0 hAM0 hok
  have hAM : absM M_8 A0 := absM_fr hAM hTM0 f_9 (by decide) (by decide) (by decide)
  have hUM : absTM M_8 T0 := absTM_eq hUM (f_9.1 14 rfl (by decide)) (congrArg vi (f_9.2 19 (by decide)))
  have hSM : absHM M_8 S0 := hm_fr hSM (f_9.1 1 rfl (by decide)) (f_9.1 2 rfl (by decide)) (f_9.1 3 rfl (by decide)) (f_9.1 6 rfl (by decide))
  refine W.widen (k := cN) (n := sN) (Nat.le_refl _) (Nat.le_refl _) ?_
  refine lv_pop hx hb dL_law_1040 rfl ?_
  refine lv_goto (tgt := 2045) hx hb dL_law_1041 (by decide) ?_
  exact kk ma C_3 M_8 n (cN) (sN) H locs ls hT hTM hR hkp ht1 ht2 ht3 ⟨_, _, hAX, hAM, hok, hUX, hUM, _, hSX, hSM, hSN⟩ htK (by omega) (by omega) hP hD hS hl

set_option maxHeartbeats 4000000 in
set_option maxRecDepth 100000 in
/-- the law at a call of bears -/
theorem lc_bears {p : Program} {e : Env} {s : State} {m : MethodId} {below : List Frame} {meth : Method} {c : Code} (l : Launch) {b L : Nat} {xs : Nat → Int32} (C0 : lw_At p s m meth c b L xs) (hL : L ≤ 4096) {D : va_G} {E : Nat → ClassId} {G : Nat → Nat} {A : Nat → Prop} (hAe : A = fun q => s.heap.size ≤ q) (hK : va_K D vwCl (oh_ty E) s) (hG : oh_G G A s) {a : Nat → Nat} {i : Nat} (hi : i + 8 ≤ L) {ma : Nat → Nat} {C M : Nat → va_E} {n cN sN : Nat} (hT : TyX a E C) (hTM : TyM ma E M) (hR : RelM M) (hkp : KEPT E n ma M) (ht1 : gi (C 5) 1 = gi (M 0) 7) (ht2 : gi (C 0) 2 = 0 ↔ n = 74) (ht3 : ga (C 32) = ga (M 7)) (htA : ∃ (A0 : LA) (T0 : TP), absX 10 C A0 ∧ absM M A0 ∧ okA A0 ∧ absTX 1 16 C T0 ∧ absTM M T0 ∧ ∃ S0 : HZ, absHX C S0 ∧ absHM M S0 ∧ shN (A0 5 0 1) S0) (htK : TIEK n C M) (hcN : cN ≤ 35 + n) (hsN : sN ≤ 1477 + 16 * n) {H : Heap} {locs : List Loc} (hP : va_P D vwCl (oh_W 35 a C ++ oh_W n ma M) H) (hD : va_D A (oh_W 35 a C ++ oh_W n ma M)) (hS : va_S A s.heap H locs) {ls : Array Slot} (hl : lv_has ls 4 [(3, .int (nI i)), (2, .ref (ma 0)), (1, .ref (a 0)), (0, .ref b)]) (kk : ∀ (ma : Nat → Nat) (C M : Nat → va_E) (n cN sN : Nat) (H : Heap) (locs : List Loc) (ls : Array Slot), TyX a E C → TyM ma E M → RelM M → KEPT E n ma M → gi (C 5) 1 = gi (M 0) 7 → (gi (C 0) 2 = 0 ↔ n = 74) → ga (C 32) = ga (M 7) → (∃ (A0 : LA) (T0 : TP), absX 10 C A0 ∧ absM M A0 ∧ okA A0 ∧ absTX 1 16 C T0 ∧ absTM M T0 ∧ ∃ S0 : HZ, absHX C S0 ∧ absHM M S0 ∧ shN (A0 5 0 1) S0) → TIEK n C M → cN ≤ 35 + n → sN ≤ 1477 + 16 * n → va_P D vwCl (oh_W 35 a C ++ oh_W n ma M) H → va_D A (oh_W 35 a C ++ oh_W n ma M) → va_S A s.heap H locs → lv_has ls 4 [(3, .int (nI i)), (2, .ref (ma 0)), (1, .ref (a 0)), (0, .ref b)] → W p l e room_1 s m #[Value.ref b] below meth c H locs cN sN (lw_Z below #[Value.ref b] s) (F0 m 2045 ls [])) : W p l e room_1 s m #[Value.ref b] below meth c H locs cN sN (lw_Z below #[Value.ref b] s) (F0 m 1044 ls []) := by
  obtain ⟨hx, hb, hr, hml, hown, hts, hX, hbl, hlocks, hgv⟩ := id C0
  have hown : s.vm.findClass RL = some m.cls := hown
  have htg : ∀ w ∈ oh_t, w.before _ s = true := fun w h => hts w (List.mem_filter.mp h).1
  have hA : ∀ q, s.heap.size ≤ q → A q := fun q h => by rw [hAe]; exact h
  have hbA : ¬ A b := by rw [hAe]; exact Nat.not_le.mpr hbl
  have hn := hkp.le.1
  have hn8 := hkp.le.2
  have ht10 := ht1
  have ht20 := ht2
  have ht30 := ht3
  obtain ⟨A0, T0, hAX, hAM, hok, hUX, hUM, S0, hSX, hSM, hSN⟩ := htA
  have hAX0 := hAX
  have hAM0 := hAM
  have htK0 := htK
  have hSX0 := hSX
  have hSM0 := hSM
  have hSN0 := hSN
  have hUX0 := hUX
  have hok0 := hok
  refine lv_aload_n hx hb dL_law_1044 rfl (lv_at hl 2 rfl) ?_
  refine lv_aload_n hx hb dL_law_1045 rfl (lv_at hl 3 rfl) ?_
  refine lv_iload_n hx hb dL_law_1046 rfl (lv_at hl 0 rfl) ?_
  refine lv_iconst (v := 1) hx hb dL_law_1047 (by decide) ?_
  refine lv_iadd hx hb dL_law_1048 ?_
  refine va_sld hx hb hX hbl hbA hS (lw_ix hi hL (rg_c (v := 1) (lo := 1) (hi := 1) (by decide)) (by decide)) dL_law_1049 ?_
  refine lv_aload_n hx hb dL_law_1050 rfl (lv_at hl 3 rfl) ?_
  refine lv_iload_n hx hb dL_law_1051 rfl (lv_at hl 0 rfl) ?_
  refine lv_iconst (v := 2) hx hb dL_law_1052 (by decide) ?_
  refine lv_iadd hx hb dL_law_1053 ?_
  refine va_sld hx hb hX hbl hbA hS (lw_ix hi hL (rg_c (v := 2) (lo := 2) (hi := 2) (by decide)) (by decide)) dL_law_1054 ?_
  refine lv_if_eq (tgt := 1062) hx hb dL_law_1055 (by decide) (fun (c_1 : (xs ((nI i) + 2).toNatClampNeg) = 0) => ?_) (fun (c_1 : ¬ ((xs ((nI i) + 2).toNatClampNeg) = 0)) => ?_)
  · refine lv_iconst (v := 0) hx hb dL_law_1062 (by decide) ?_
    refine lw_cX (As := [.int (xs ((nI i) + 1).toNatClampNeg), .int 0]) (rest := []) ⟨hx, hb, hml, hown, htg⟩ (e_X6_bears l D E G _ a C hT (xs ((nI i) + 1).toNatClampNeg) (0 : Int32) (rg_c (v := 0) (lo := 0) (hi := 1) (by decide))) (cwV 2 htg (oh_gV q_671 q_672 q_673 q_66 q_674) rfl rfl rfl pdVX6_bears ⟨Nat.le_of_ble_eq_true rfl, Nat.le_of_ble_eq_true rfl⟩) hK hP hD hG hS hA (va_recv hK (oh_pre_P hP) (ci := 6) (q0 := 0) rfl (oh_wg (by decide) (sX_0 hT))) rfl hl.1 rfl (Nat.le_of_ble_eq_true rfl) dL_law_1063 ⟨show cN + 0 ≤ 600000 by omega, show sN + 0 ≤ 7302250 by omega⟩ (fun r_2 C_4 H locs hq_3 hP hD hS => ?_)
    obtain ⟨hT, f_5, hq_3⟩ := hq_3
    have ht1 : gi (C_4 5) 1 = gi (M 0) 7 := by rw [f_5.1 5 rfl (by decide)]; exact ht1
    have ht2 : gi (C_4 0) 2 = 0 ↔ n = 74 := by rw [show gi (C_4 0) 2 = gi (C 0) 2 from congrArg vi (f_5.2 2 (by decide))]; exact ht2
    have ht3 : ga (C_4 32) = ga (M 7) := Eq.trans (congrArg ga (f_5.1 32 rfl (by decide))) ht3
    have htK := htK.x (fr_all f_5 17 23 (by decide)) (f_5.1 2 rfl (by decide))
    have hX_6 := hq_3 A0 hAX0 hok
    have hAX : absX 10 C_4 A0 := absX_eq hAX (fun k k1 k2 => fr_all f_5 10 15 (by decide) k k1 (by omega))
    have hUX : absTX 1 16 C_4 T0 := absTX_eq hUX (congrArg (fun z => gi z 7) (f_5.1 1 rfl (by decide))) (f_5.1 16 rfl (by decide))
    have hSX : absHX C_4 S0 := hx_fr hSX (f_5.1 29 rfl (by decide)) (f_5.1 30 rfl (by decide))
    refine W.widen (k := cN) (n := sN) (Nat.le_refl _) (Nat.le_refl _) ?_
    refine lv_pop hx hb dL_law_1066 rfl ?_
    refine lv_aload_n hx hb dL_law_1067 rfl (lv_at hl 1 rfl) ?_
    refine lv_aload_n hx hb dL_law_1068 rfl (lv_at hl 3 rfl) ?_
    refine lv_iload_n hx hb dL_law_1069 rfl (lv_at hl 0 rfl) ?_
    refine lv_iconst (v := 1) hx hb dL_law_1070 (by decide) ?_
    refine lv_iadd hx hb dL_law_1071 ?_
    refine va_sld hx hb hX hbl hbA hS (lw_ix hi hL (rg_c (v := 1) (lo := 1) (hi := 1) (by decide)) (by decide)) dL_law_1072 ?_
    refine lv_aload_n hx hb dL_law_1073 rfl (lv_at hl 3 rfl) ?_
    refine lv_iload_n hx hb dL_law_1074 rfl (lv_at hl 0 rfl) ?_
    refine lv_iconst (v := 2) hx hb dL_law_1075 (by decide) ?_
    refine lv_iadd hx hb dL_law_1076 ?_
    refine va_sld hx hb hX hbl hbA hS (lw_ix hi hL (rg_c (v := 2) (lo := 2) (hi := 2) (by decide)) (by decide)) dL_law_1077 ?_
    refine lv_if_eq (tgt := 1085) hx hb dL_law_1078 (by decide) (fun (c_7 : (xs ((nI i) + 2).toNatClampNeg) = 0) => ?_) (fun (c_7 : ¬ ((xs ((nI i) + 2).toNatClampNeg) = 0)) => ?_)
    · refine lv_iconst (v := 0) hx hb dL_law_1085 (by decide) ?_
      refine lw_cM (As := [.int (xs ((nI i) + 1).toNatClampNeg), .int 0]) (rest := []) ⟨hx, hb, hml, hown, htg⟩ (e_X7_bears l D E G _ ma M n hn hTM (xs ((nI i) + 1).toNatClampNeg) (0 : Int32) (rg_c (v := 0) (lo := 0) (hi := 1) (by decide)) hR) (cwV 2 htg (oh_gV q_1270 q_1271 q_1272 q_73 q_1273) rfl rfl rfl pdVX7_bears ⟨Nat.le_of_ble_eq_true rfl, Nat.le_of_ble_eq_true rfl⟩) hK hP hD hG hS hA (va_recv hK (oh_suf_P hP) (ci := 7) (q0 := 0) rfl (oh_wg (by omega) (sM_0 hTM))) rfl hl.1 rfl (Nat.le_of_ble_eq_true rfl) dL_law_1086 ⟨show cN + 0 ≤ 600000 by omega, show sN + 0 ≤ 7302250 by omega⟩ (fun r_8 M_10 H locs hq_9 hP hD hS => ?_)
      have hTM0 := hTM
      obtain ⟨hTM, f_11, hR, hq_9⟩ := hq_9
      have hkp := kept_fr hkp f_11 (by decide)
      have ht1 : gi (C_4 5) 1 = gi (M_10 0) 7 := by rw [show gi (M_10 0) 7 = gi (M 0) 7 from congrArg vi (f_11.2 7 (by decide))]; exact ht1
      have ht3 : ga (C_4 32) = ga (M_10 7) := Eq.trans ht3 (congrArg ga (f_11.1 7 rfl (by decide))).symm
      have htK := htK.m f_11 (by decide)
      have hM_12 := hq_9 A0 hAM0 hok
      have hAM : absM M_10 A0 := absM_fr hAM hTM0 f_11 (by decide) (by decide) (by decide)
      have hUM : absTM M_10 T0 := absTM_eq hUM (f_11.1 14 rfl (by decide)) (congrArg vi (f_11.2 19 (by decide)))
      have hSM : absHM M_10 S0 := hm_fr hSM (f_11.1 1 rfl (by decide)) (f_11.1 2 rfl (by decide)) (f_11.1 3 rfl (by decide)) (f_11.1 6 rfl (by decide))
      refine W.widen (k := cN) (n := sN) (Nat.le_refl _) (Nat.le_refl _) ?_
      refine lv_pop hx hb dL_law_1089 rfl ?_
      refine lv_goto (tgt := 2045) hx hb dL_law_1090 (by decide) ?_
      exact kk ma C_4 M_10 n (cN) (sN) H locs ls hT hTM hR hkp ht1 ht2 ht3 ⟨_, _, hAX, hAM, hok, hUX, hUM, _, hSX, hSM, hSN⟩ htK (by omega) (by omega) hP hD hS hl
    · refine lv_iconst (v := 1) hx hb dL_law_1081 (by decide) ?_
      refine lv_goto (tgt := 1086) hx hb dL_law_1082 (by decide) ?_
      refine lw_cM (As := [.int (xs ((nI i) + 1).toNatClampNeg), .int 1]) (rest := []) ⟨hx, hb, hml, hown, htg⟩ (e_X7_bears l D E G _ ma M n hn hTM (xs ((nI i) + 1).toNatClampNeg) (1 : Int32) (rg_c (v := 1) (lo := 0) (hi := 1) (by decide)) hR) (cwV 2 htg (oh_gV q_1270 q_1271 q_1272 q_73 q_1273) rfl rfl rfl pdVX7_bears ⟨Nat.le_of_ble_eq_true rfl, Nat.le_of_ble_eq_true rfl⟩) hK hP hD hG hS hA (va_recv hK (oh_suf_P hP) (ci := 7) (q0 := 0) rfl (oh_wg (by omega) (sM_0 hTM))) rfl hl.1 rfl (Nat.le_of_ble_eq_true rfl) dL_law_1086 ⟨show cN + 0 ≤ 600000 by omega, show sN + 0 ≤ 7302250 by omega⟩ (fun r_13 M_15 H locs hq_14 hP hD hS => ?_)
      have hTM0 := hTM
      obtain ⟨hTM, f_16, hR, hq_14⟩ := hq_14
      have hkp := kept_fr hkp f_16 (by decide)
      have ht1 : gi (C_4 5) 1 = gi (M_15 0) 7 := by rw [show gi (M_15 0) 7 = gi (M 0) 7 from congrArg vi (f_16.2 7 (by decide))]; exact ht1
      have ht3 : ga (C_4 32) = ga (M_15 7) := Eq.trans ht3 (congrArg ga (f_16.1 7 rfl (by decide))).symm
      have htK := htK.m f_16 (by decide)
      have hM_17 := hq_14 A0 hAM0 hok
      have hAM : absM M_15 A0 := absM_fr hAM hTM0 f_16 (by decide) (by decide) (by decide)
      have hUM : absTM M_15 T0 := absTM_eq hUM (f_16.1 14 rfl (by decide)) (congrArg vi (f_16.2 19 (by decide)))
      have hSM : absHM M_15 S0 := hm_fr hSM (f_16.1 1 rfl (by decide)) (f_16.1 2 rfl (by decide)) (f_16.1 3 rfl (by decide)) (f_16.1 6 rfl (by decide))
      refine W.widen (k := cN) (n := sN) (Nat.le_refl _) (Nat.le_refl _) ?_
      refine lv_pop hx hb dL_law_1089 rfl ?_
      refine lv_goto (tgt := 2045) hx hb dL_law_1090 (by decide) ?_
      exact absurd c_1 c_7
  · refine lv_iconst (v := 1) hx hb dL_law_1058 (by decide) ?_
    refine lv_goto (tgt := 1063) hx hb dL_law_1059 (by decide) ?_
    refine lw_cX (As := [.int (xs ((nI i) + 1).toNatClampNeg), .int 1]) (rest := []) ⟨hx, hb, hml, hown, htg⟩ (e_X6_bears l D E G _ a C hT (xs ((nI i) + 1).toNatClampNeg) (1 : Int32) (rg_c (v := 1) (lo := 0) (hi := 1) (by decide))) (cwV 2 htg (oh_gV q_671 q_672 q_673 q_66 q_674) rfl rfl rfl pdVX6_bears ⟨Nat.le_of_ble_eq_true rfl, Nat.le_of_ble_eq_true rfl⟩) hK hP hD hG hS hA (va_recv hK (oh_pre_P hP) (ci := 6) (q0 := 0) rfl (oh_wg (by decide) (sX_0 hT))) rfl hl.1 rfl (Nat.le_of_ble_eq_true rfl) dL_law_1063 ⟨show cN + 0 ≤ 600000 by omega, show sN + 0 ≤ 7302250 by omega⟩ (fun r_18 C_20 H locs hq_19 hP hD hS => ?_)
    obtain ⟨hT, f_21, hq_19⟩ := hq_19
    have ht1 : gi (C_20 5) 1 = gi (M 0) 7 := by rw [f_21.1 5 rfl (by decide)]; exact ht1
    have ht2 : gi (C_20 0) 2 = 0 ↔ n = 74 := by rw [show gi (C_20 0) 2 = gi (C 0) 2 from congrArg vi (f_21.2 2 (by decide))]; exact ht2
    have ht3 : ga (C_20 32) = ga (M 7) := Eq.trans (congrArg ga (f_21.1 32 rfl (by decide))) ht3
    have htK := htK.x (fr_all f_21 17 23 (by decide)) (f_21.1 2 rfl (by decide))
    have hX_22 := hq_19 A0 hAX0 hok
    have hAX : absX 10 C_20 A0 := absX_eq hAX (fun k k1 k2 => fr_all f_21 10 15 (by decide) k k1 (by omega))
    have hUX : absTX 1 16 C_20 T0 := absTX_eq hUX (congrArg (fun z => gi z 7) (f_21.1 1 rfl (by decide))) (f_21.1 16 rfl (by decide))
    have hSX : absHX C_20 S0 := hx_fr hSX (f_21.1 29 rfl (by decide)) (f_21.1 30 rfl (by decide))
    refine W.widen (k := cN) (n := sN) (Nat.le_refl _) (Nat.le_refl _) ?_
    refine lv_pop hx hb dL_law_1066 rfl ?_
    refine lv_aload_n hx hb dL_law_1067 rfl (lv_at hl 1 rfl) ?_
    refine lv_aload_n hx hb dL_law_1068 rfl (lv_at hl 3 rfl) ?_
    refine lv_iload_n hx hb dL_law_1069 rfl (lv_at hl 0 rfl) ?_
    refine lv_iconst (v := 1) hx hb dL_law_1070 (by decide) ?_
    refine lv_iadd hx hb dL_law_1071 ?_
    refine va_sld hx hb hX hbl hbA hS (lw_ix hi hL (rg_c (v := 1) (lo := 1) (hi := 1) (by decide)) (by decide)) dL_law_1072 ?_
    refine lv_aload_n hx hb dL_law_1073 rfl (lv_at hl 3 rfl) ?_
    refine lv_iload_n hx hb dL_law_1074 rfl (lv_at hl 0 rfl) ?_
    refine lv_iconst (v := 2) hx hb dL_law_1075 (by decide) ?_
    refine lv_iadd hx hb dL_law_1076 ?_
    refine va_sld hx hb hX hbl hbA hS (lw_ix hi hL (rg_c (v := 2) (lo := 2) (hi := 2) (by decide)) (by decide)) dL_law_1077 ?_
    refine lv_if_eq (tgt := 1085) hx hb dL_law_1078 (by decide) (fun (c_23 : (xs ((nI i) + 2).toNatClampNeg) = 0) => ?_) (fun (c_23 : ¬ ((xs ((nI i) + 2).toNatClampNeg) = 0)) => ?_)
    · refine lv_iconst (v := 0) hx hb dL_law_1085 (by decide) ?_
      refine lw_cM (As := [.int (xs ((nI i) + 1).toNatClampNeg), .int 0]) (rest := []) ⟨hx, hb, hml, hown, htg⟩ (e_X7_bears l D E G _ ma M n hn hTM (xs ((nI i) + 1).toNatClampNeg) (0 : Int32) (rg_c (v := 0) (lo := 0) (hi := 1) (by decide)) hR) (cwV 2 htg (oh_gV q_1270 q_1271 q_1272 q_73 q_1273) rfl rfl rfl pdVX7_bears ⟨Nat.le_of_ble_eq_true rfl, Nat.le_of_ble_eq_true rfl⟩) hK hP hD hG hS hA (va_recv hK (oh_suf_P hP) (ci := 7) (q0 := 0) rfl (oh_wg (by omega) (sM_0 hTM))) rfl hl.1 rfl (Nat.le_of_ble_eq_true rfl) dL_law_1086 ⟨show cN + 0 ≤ 600000 by omega, show sN + 0 ≤ 7302250 by omega⟩ (fun r_24 M_26 H locs hq_25 hP hD hS => ?_)
      have hTM0 := hTM
      obtain ⟨hTM, f_27, hR, hq_25⟩ := hq_25
      have hkp := kept_fr hkp f_27 (by decide)
      have ht1 : gi (C_20 5) 1 = gi (M_26 0) 7 := by rw [show gi (M_26 0) 7 = gi (M 0) 7 from congrArg vi (f_27.2 7 (by decide))]; exact ht1
      have ht3 : ga (C_20 32) = ga (M_26 7) := Eq.trans ht3 (congrArg ga (f_27.1 7 rfl (by decide))).symm
      have htK := htK.m f_27 (by decide)
      have hM_28 := hq_25 A0 hAM0 hok
      have hAM : absM M_26 A0 := absM_fr hAM hTM0 f_27 (by decide) (by decide) (by decide)
      have hUM : absTM M_26 T0 := absTM_eq hUM (f_27.1 14 rfl (by decide)) (congrArg vi (f_27.2 19 (by decide)))
      have hSM : absHM M_26 S0 := hm_fr hSM (f_27.1 1 rfl (by decide)) (f_27.1 2 rfl (by decide)) (f_27.1 3 rfl (by decide)) (f_27.1 6 rfl (by decide))
      refine W.widen (k := cN) (n := sN) (Nat.le_refl _) (Nat.le_refl _) ?_
      refine lv_pop hx hb dL_law_1089 rfl ?_
      refine lv_goto (tgt := 2045) hx hb dL_law_1090 (by decide) ?_
      exact absurd c_23 c_1
    · refine lv_iconst (v := 1) hx hb dL_law_1081 (by decide) ?_
      refine lv_goto (tgt := 1086) hx hb dL_law_1082 (by decide) ?_
      refine lw_cM (As := [.int (xs ((nI i) + 1).toNatClampNeg), .int 1]) (rest := []) ⟨hx, hb, hml, hown, htg⟩ (e_X7_bears l D E G _ ma M n hn hTM (xs ((nI i) + 1).toNatClampNeg) (1 : Int32) (rg_c (v := 1) (lo := 0) (hi := 1) (by decide)) hR) (cwV 2 htg (oh_gV q_1270 q_1271 q_1272 q_73 q_1273) rfl rfl rfl pdVX7_bears ⟨Nat.le_of_ble_eq_true rfl, Nat.le_of_ble_eq_true rfl⟩) hK hP hD hG hS hA (va_recv hK (oh_suf_P hP) (ci := 7) (q0 := 0) rfl (oh_wg (by omega) (sM_0 hTM))) rfl hl.1 rfl (Nat.le_of_ble_eq_true rfl) dL_law_1086 ⟨show cN + 0 ≤ 600000 by omega, show sN + 0 ≤ 7302250 by omega⟩ (fun r_29 M_31 H locs hq_30 hP hD hS => ?_)
      have hTM0 := hTM
      obtain ⟨hTM, f_32, hR, hq_30⟩ := hq_30
      have hkp := kept_fr hkp f_32 (by decide)
      have ht1 : gi (C_20 5) 1 = gi (M_31 0) 7 := by rw [show gi (M_31 0) 7 = gi (M 0) 7 from congrArg vi (f_32.2 7 (by decide))]; exact ht1
      have ht3 : ga (C_20 32) = ga (M_31 7) := Eq.trans ht3 (congrArg ga (f_32.1 7 rfl (by decide))).symm
      have htK := htK.m f_32 (by decide)
      have hM_33 := hq_30 A0 hAM0 hok
      have hAM : absM M_31 A0 := absM_fr hAM hTM0 f_32 (by decide) (by decide) (by decide)
      have hUM : absTM M_31 T0 := absTM_eq hUM (f_32.1 14 rfl (by decide)) (congrArg vi (f_32.2 19 (by decide)))
      have hSM : absHM M_31 S0 := hm_fr hSM (f_32.1 1 rfl (by decide)) (f_32.1 2 rfl (by decide)) (f_32.1 3 rfl (by decide)) (f_32.1 6 rfl (by decide))
      refine W.widen (k := cN) (n := sN) (Nat.le_refl _) (Nat.le_refl _) ?_
      refine lv_pop hx hb dL_law_1089 rfl ?_
      refine lv_goto (tgt := 2045) hx hb dL_law_1090 (by decide) ?_
      exact kk ma C_20 M_31 n (cN) (sN) H locs ls hT hTM hR hkp ht1 ht2 ht3 ⟨_, _, hAX, hAM, hok, hUX, hUM, _, hSX, hSM, hSN⟩ htK (by omega) (by omega) hP hD hS hl

set_option maxHeartbeats 4000000 in
set_option maxRecDepth 100000 in
/-- the law at a call of length -/
theorem lc_length {p : Program} {e : Env} {s : State} {m : MethodId} {below : List Frame} {meth : Method} {c : Code} (l : Launch) {b L : Nat} {xs : Nat → Int32} (C0 : lw_At p s m meth c b L xs) (hL : L ≤ 4096) {D : va_G} {E : Nat → ClassId} {G : Nat → Nat} {A : Nat → Prop} (hAe : A = fun q => s.heap.size ≤ q) (hK : va_K D vwCl (oh_ty E) s) (hG : oh_G G A s) {a : Nat → Nat} {i : Nat} (hi : i + 8 ≤ L) {ma : Nat → Nat} {C M : Nat → va_E} {n cN sN : Nat} (hT : TyX a E C) (hTM : TyM ma E M) (hR : RelM M) (hkp : KEPT E n ma M) (ht1 : gi (C 5) 1 = gi (M 0) 7) (ht2 : gi (C 0) 2 = 0 ↔ n = 74) (ht3 : ga (C 32) = ga (M 7)) (htA : ∃ (A0 : LA) (T0 : TP), absX 10 C A0 ∧ absM M A0 ∧ okA A0 ∧ absTX 1 16 C T0 ∧ absTM M T0 ∧ ∃ S0 : HZ, absHX C S0 ∧ absHM M S0 ∧ shN (A0 5 0 1) S0) (htK : TIEK n C M) (hcN : cN ≤ 35 + n) (hsN : sN ≤ 1477 + 16 * n) {H : Heap} {locs : List Loc} (hP : va_P D vwCl (oh_W 35 a C ++ oh_W n ma M) H) (hD : va_D A (oh_W 35 a C ++ oh_W n ma M)) (hS : va_S A s.heap H locs) {ls : Array Slot} (hl : lv_has ls 4 [(3, .int (nI i)), (2, .ref (ma 0)), (1, .ref (a 0)), (0, .ref b)]) (kk : ∀ (ma : Nat → Nat) (C M : Nat → va_E) (n cN sN : Nat) (H : Heap) (locs : List Loc) (ls : Array Slot), TyX a E C → TyM ma E M → RelM M → KEPT E n ma M → gi (C 5) 1 = gi (M 0) 7 → (gi (C 0) 2 = 0 ↔ n = 74) → ga (C 32) = ga (M 7) → (∃ (A0 : LA) (T0 : TP), absX 10 C A0 ∧ absM M A0 ∧ okA A0 ∧ absTX 1 16 C T0 ∧ absTM M T0 ∧ ∃ S0 : HZ, absHX C S0 ∧ absHM M S0 ∧ shN (A0 5 0 1) S0) → TIEK n C M → cN ≤ 35 + n → sN ≤ 1477 + 16 * n → va_P D vwCl (oh_W 35 a C ++ oh_W n ma M) H → va_D A (oh_W 35 a C ++ oh_W n ma M) → va_S A s.heap H locs → lv_has ls 4 [(3, .int (nI i)), (2, .ref (ma 0)), (1, .ref (a 0)), (0, .ref b)] → W p l e room_1 s m #[Value.ref b] below meth c H locs cN sN (lw_Z below #[Value.ref b] s) (F0 m 2045 ls [])) : W p l e room_1 s m #[Value.ref b] below meth c H locs cN sN (lw_Z below #[Value.ref b] s) (F0 m 1093 ls []) := by
  obtain ⟨hx, hb, hr, hml, hown, hts, hX, hbl, hlocks, hgv⟩ := id C0
  have hown : s.vm.findClass RL = some m.cls := hown
  have htg : ∀ w ∈ oh_t, w.before _ s = true := fun w h => hts w (List.mem_filter.mp h).1
  have hA : ∀ q, s.heap.size ≤ q → A q := fun q h => by rw [hAe]; exact h
  have hbA : ¬ A b := by rw [hAe]; exact Nat.not_le.mpr hbl
  have hn := hkp.le.1
  have hn8 := hkp.le.2
  have ht10 := ht1
  have ht20 := ht2
  have ht30 := ht3
  obtain ⟨A0, T0, hAX, hAM, hok, hUX, hUM, S0, hSX, hSM, hSN⟩ := htA
  have hAX0 := hAX
  have hAM0 := hAM
  have htK0 := htK
  have hSX0 := hSX
  have hSM0 := hSM
  have hSN0 := hSN
  have hUX0 := hUX
  have hok0 := hok
  refine lv_aload_n hx hb dL_law_1093 rfl (lv_at hl 2 rfl) ?_
  refine lv_aload_n hx hb dL_law_1094 rfl (lv_at hl 3 rfl) ?_
  refine lv_iload_n hx hb dL_law_1095 rfl (lv_at hl 0 rfl) ?_
  refine lv_iconst (v := 1) hx hb dL_law_1096 (by decide) ?_
  refine lv_iadd hx hb dL_law_1097 ?_
  refine va_sld hx hb hX hbl hbA hS (lw_ix hi hL (rg_c (v := 1) (lo := 1) (hi := 1) (by decide)) (by decide)) dL_law_1098 ?_
  refine lw_cX (As := [.int (xs ((nI i) + 1).toNatClampNeg)]) (rest := []) ⟨hx, hb, hml, hown, htg⟩ (e_X6_length l D E G _ a C hT (xs ((nI i) + 1).toNatClampNeg)) (cwV 1 htg (oh_gV q_675 q_676 q_677 q_66 q_678) rfl rfl rfl pdVX6_length ⟨Nat.le_of_ble_eq_true rfl, Nat.le_of_ble_eq_true rfl⟩) hK hP hD hG hS hA (va_recv hK (oh_pre_P hP) (ci := 6) (q0 := 0) rfl (oh_wg (by decide) (sX_0 hT))) rfl hl.1 rfl (Nat.le_of_ble_eq_true rfl) dL_law_1099 ⟨show cN + 0 ≤ 600000 by omega, show sN + 0 ≤ 7302250 by omega⟩ (fun r_1 C_3 H locs hq_2 hP hD hS => ?_)
  obtain ⟨hT, f_4, hq_2⟩ := hq_2
  have ht1 : gi (C_3 5) 1 = gi (M 0) 7 := by rw [f_4.1 5 rfl (by decide)]; exact ht1
  have ht2 : gi (C_3 0) 2 = 0 ↔ n = 74 := by rw [show gi (C_3 0) 2 = gi (C 0) 2 from congrArg vi (f_4.2 2 (by decide))]; exact ht2
  have ht3 : ga (C_3 32) = ga (M 7) := Eq.trans (congrArg ga (f_4.1 32 rfl (by decide))) ht3
  have htK := htK.x (fr_all f_4 17 23 (by decide)) (f_4.1 2 rfl (by decide))
  have hX_5 := hq_2 A0 hAX0
  have hAX : absX 10 C_3 A0 := absX_eq hAX (fun k k1 k2 => fr_all f_4 10 15 (by decide) k k1 (by omega))
  have hUX : absTX 1 16 C_3 T0 := absTX_eq hUX (congrArg (fun z => gi z 7) (f_4.1 1 rfl (by decide))) (f_4.1 16 rfl (by decide))
  have hSX : absHX C_3 S0 := hx_fr hSX (f_4.1 29 rfl (by decide)) (f_4.1 30 rfl (by decide))
  refine W.widen (k := cN) (n := sN) (Nat.le_refl _) (Nat.le_refl _) ?_
  refine lv_pop hx hb dL_law_1102 rfl ?_
  refine lv_aload_n hx hb dL_law_1103 rfl (lv_at hl 1 rfl) ?_
  refine lv_aload_n hx hb dL_law_1104 rfl (lv_at hl 3 rfl) ?_
  refine lv_iload_n hx hb dL_law_1105 rfl (lv_at hl 0 rfl) ?_
  refine lv_iconst (v := 1) hx hb dL_law_1106 (by decide) ?_
  refine lv_iadd hx hb dL_law_1107 ?_
  refine va_sld hx hb hX hbl hbA hS (lw_ix hi hL (rg_c (v := 1) (lo := 1) (hi := 1) (by decide)) (by decide)) dL_law_1108 ?_
  refine lw_cM (As := [.int (xs ((nI i) + 1).toNatClampNeg)]) (rest := []) ⟨hx, hb, hml, hown, htg⟩ (e_X7_length l D E G _ ma M n hn hTM (xs ((nI i) + 1).toNatClampNeg) hR) (cwV 1 htg (oh_gV q_1274 q_1275 q_1276 q_73 q_1277) rfl rfl rfl pdVX7_length ⟨Nat.le_of_ble_eq_true rfl, Nat.le_of_ble_eq_true rfl⟩) hK hP hD hG hS hA (va_recv hK (oh_suf_P hP) (ci := 7) (q0 := 0) rfl (oh_wg (by omega) (sM_0 hTM))) rfl hl.1 rfl (Nat.le_of_ble_eq_true rfl) dL_law_1109 ⟨show cN + 0 ≤ 600000 by omega, show sN + 0 ≤ 7302250 by omega⟩ (fun r_6 M_8 H locs hq_7 hP hD hS => ?_)
  have hTM0 := hTM
  obtain ⟨hTM, f_9, hR, hq_7⟩ := hq_7
  have hkp := kept_fr hkp f_9 (by decide)
  have ht1 : gi (C_3 5) 1 = gi (M_8 0) 7 := by rw [show gi (M_8 0) 7 = gi (M 0) 7 from congrArg vi (f_9.2 7 (by decide))]; exact ht1
  have ht3 : ga (C_3 32) = ga (M_8 7) := Eq.trans ht3 (congrArg ga (f_9.1 7 rfl (by decide))).symm
  have htK := htK.m f_9 (by decide)
  have hM_10 := hq_7 A0 hAM0
  have hAM : absM M_8 A0 := absM_fr hAM hTM0 f_9 (by decide) (by decide) (by decide)
  have hUM : absTM M_8 T0 := absTM_eq hUM (f_9.1 14 rfl (by decide)) (congrArg vi (f_9.2 19 (by decide)))
  have hSM : absHM M_8 S0 := hm_fr hSM (f_9.1 1 rfl (by decide)) (f_9.1 2 rfl (by decide)) (f_9.1 3 rfl (by decide)) (f_9.1 6 rfl (by decide))
  refine W.widen (k := cN) (n := sN) (Nat.le_refl _) (Nat.le_refl _) ?_
  refine lv_pop hx hb dL_law_1112 rfl ?_
  refine lv_goto (tgt := 2045) hx hb dL_law_1113 (by decide) ?_
  exact kk ma C_3 M_8 n (cN) (sN) H locs ls hT hTM hR hkp ht1 ht2 ht3 ⟨_, _, hAX, hAM, hok, hUX, hUM, _, hSX, hSM, hSN⟩ htK (by omega) (by omega) hP hD hS hl

set_option maxHeartbeats 4000000 in
set_option maxRecDepth 100000 in
/-- the law at a call of axle -/
theorem lc_axle {p : Program} {e : Env} {s : State} {m : MethodId} {below : List Frame} {meth : Method} {c : Code} (l : Launch) {b L : Nat} {xs : Nat → Int32} (C0 : lw_At p s m meth c b L xs) (hL : L ≤ 4096) {D : va_G} {E : Nat → ClassId} {G : Nat → Nat} {A : Nat → Prop} (hAe : A = fun q => s.heap.size ≤ q) (hK : va_K D vwCl (oh_ty E) s) (hG : oh_G G A s) {a : Nat → Nat} {i : Nat} (hi : i + 8 ≤ L) {ma : Nat → Nat} {C M : Nat → va_E} {n cN sN : Nat} (hT : TyX a E C) (hTM : TyM ma E M) (hR : RelM M) (hkp : KEPT E n ma M) (ht1 : gi (C 5) 1 = gi (M 0) 7) (ht2 : gi (C 0) 2 = 0 ↔ n = 74) (ht3 : ga (C 32) = ga (M 7)) (htA : ∃ (A0 : LA) (T0 : TP), absX 10 C A0 ∧ absM M A0 ∧ okA A0 ∧ absTX 1 16 C T0 ∧ absTM M T0 ∧ ∃ S0 : HZ, absHX C S0 ∧ absHM M S0 ∧ shN (A0 5 0 1) S0) (htK : TIEK n C M) (hcN : cN ≤ 35 + n) (hsN : sN ≤ 1477 + 16 * n) {H : Heap} {locs : List Loc} (hP : va_P D vwCl (oh_W 35 a C ++ oh_W n ma M) H) (hD : va_D A (oh_W 35 a C ++ oh_W n ma M)) (hS : va_S A s.heap H locs) {ls : Array Slot} (hl : lv_has ls 4 [(3, .int (nI i)), (2, .ref (ma 0)), (1, .ref (a 0)), (0, .ref b)]) (kk : ∀ (ma : Nat → Nat) (C M : Nat → va_E) (n cN sN : Nat) (H : Heap) (locs : List Loc) (ls : Array Slot), TyX a E C → TyM ma E M → RelM M → KEPT E n ma M → gi (C 5) 1 = gi (M 0) 7 → (gi (C 0) 2 = 0 ↔ n = 74) → ga (C 32) = ga (M 7) → (∃ (A0 : LA) (T0 : TP), absX 10 C A0 ∧ absM M A0 ∧ okA A0 ∧ absTX 1 16 C T0 ∧ absTM M T0 ∧ ∃ S0 : HZ, absHX C S0 ∧ absHM M S0 ∧ shN (A0 5 0 1) S0) → TIEK n C M → cN ≤ 35 + n → sN ≤ 1477 + 16 * n → va_P D vwCl (oh_W 35 a C ++ oh_W n ma M) H → va_D A (oh_W 35 a C ++ oh_W n ma M) → va_S A s.heap H locs → lv_has ls 4 [(3, .int (nI i)), (2, .ref (ma 0)), (1, .ref (a 0)), (0, .ref b)] → W p l e room_1 s m #[Value.ref b] below meth c H locs cN sN (lw_Z below #[Value.ref b] s) (F0 m 2045 ls [])) : W p l e room_1 s m #[Value.ref b] below meth c H locs cN sN (lw_Z below #[Value.ref b] s) (F0 m 1116 ls []) := by
  obtain ⟨hx, hb, hr, hml, hown, hts, hX, hbl, hlocks, hgv⟩ := id C0
  have hown : s.vm.findClass RL = some m.cls := hown
  have htg : ∀ w ∈ oh_t, w.before _ s = true := fun w h => hts w (List.mem_filter.mp h).1
  have hA : ∀ q, s.heap.size ≤ q → A q := fun q h => by rw [hAe]; exact h
  have hbA : ¬ A b := by rw [hAe]; exact Nat.not_le.mpr hbl
  have hn := hkp.le.1
  have hn8 := hkp.le.2
  have ht10 := ht1
  have ht20 := ht2
  have ht30 := ht3
  obtain ⟨A0, T0, hAX, hAM, hok, hUX, hUM, S0, hSX, hSM, hSN⟩ := htA
  have hAX0 := hAX
  have hAM0 := hAM
  have htK0 := htK
  have hSX0 := hSX
  have hSM0 := hSM
  have hSN0 := hSN
  have hUX0 := hUX
  have hok0 := hok
  refine lv_aload_n hx hb dL_law_1116 rfl (lv_at hl 2 rfl) ?_
  refine lv_aload_n hx hb dL_law_1117 rfl (lv_at hl 3 rfl) ?_
  refine lv_iload_n hx hb dL_law_1118 rfl (lv_at hl 0 rfl) ?_
  refine lv_iconst (v := 1) hx hb dL_law_1119 (by decide) ?_
  refine lv_iadd hx hb dL_law_1120 ?_
  refine va_sld hx hb hX hbl hbA hS (lw_ix hi hL (rg_c (v := 1) (lo := 1) (hi := 1) (by decide)) (by decide)) dL_law_1121 ?_
  refine lv_aload_n hx hb dL_law_1122 rfl (lv_at hl 3 rfl) ?_
  refine lv_iload_n hx hb dL_law_1123 rfl (lv_at hl 0 rfl) ?_
  refine lv_iconst (v := 2) hx hb dL_law_1124 (by decide) ?_
  refine lv_iadd hx hb dL_law_1125 ?_
  refine va_sld hx hb hX hbl hbA hS (lw_ix hi hL (rg_c (v := 2) (lo := 2) (hi := 2) (by decide)) (by decide)) dL_law_1126 ?_
  refine lw_cX (As := [.int (xs ((nI i) + 1).toNatClampNeg), .int (xs ((nI i) + 2).toNatClampNeg)]) (rest := []) ⟨hx, hb, hml, hown, htg⟩ (e_X6_axle l D E G _ a C hT (xs ((nI i) + 1).toNatClampNeg) (xs ((nI i) + 2).toNatClampNeg)) (cwV 2 htg (oh_gV q_691 q_692 q_693 q_66 q_694) rfl rfl rfl pdVX6_axle ⟨Nat.le_of_ble_eq_true rfl, Nat.le_of_ble_eq_true rfl⟩) hK hP hD hG hS hA (va_recv hK (oh_pre_P hP) (ci := 6) (q0 := 0) rfl (oh_wg (by decide) (sX_0 hT))) rfl hl.1 rfl (Nat.le_of_ble_eq_true rfl) dL_law_1127 ⟨show cN + 0 ≤ 600000 by omega, show sN + 0 ≤ 7302250 by omega⟩ (fun r_1 C_3 H locs hq_2 hP hD hS => ?_)
  obtain ⟨hT, f_4, hq_2⟩ := hq_2
  have ht1 : gi (C_3 5) 1 = gi (M 0) 7 := by rw [f_4.1 5 rfl (by decide)]; exact ht1
  have ht2 : gi (C_3 0) 2 = 0 ↔ n = 74 := by rw [show gi (C_3 0) 2 = gi (C 0) 2 from congrArg vi (f_4.2 2 (by decide))]; exact ht2
  have ht3 : ga (C_3 32) = ga (M 7) := Eq.trans (congrArg ga (f_4.1 32 rfl (by decide))) ht3
  have htK := htK.x (fr_all f_4 17 23 (by decide)) (f_4.1 2 rfl (by decide))
  have hX_5 := hq_2 A0 hAX0
  have hAX : absX 10 C_3 A0 := absX_eq hAX (fun k k1 k2 => fr_all f_4 10 15 (by decide) k k1 (by omega))
  have hUX : absTX 1 16 C_3 T0 := absTX_eq hUX (congrArg (fun z => gi z 7) (f_4.1 1 rfl (by decide))) (f_4.1 16 rfl (by decide))
  have hSX : absHX C_3 S0 := hx_fr hSX (f_4.1 29 rfl (by decide)) (f_4.1 30 rfl (by decide))
  refine W.widen (k := cN) (n := sN) (Nat.le_refl _) (Nat.le_refl _) ?_
  refine lv_pop hx hb dL_law_1130 rfl ?_
  refine lv_aload_n hx hb dL_law_1131 rfl (lv_at hl 1 rfl) ?_
  refine lv_aload_n hx hb dL_law_1132 rfl (lv_at hl 3 rfl) ?_
  refine lv_iload_n hx hb dL_law_1133 rfl (lv_at hl 0 rfl) ?_
  refine lv_iconst (v := 1) hx hb dL_law_1134 (by decide) ?_
  refine lv_iadd hx hb dL_law_1135 ?_
  refine va_sld hx hb hX hbl hbA hS (lw_ix hi hL (rg_c (v := 1) (lo := 1) (hi := 1) (by decide)) (by decide)) dL_law_1136 ?_
  refine lv_aload_n hx hb dL_law_1137 rfl (lv_at hl 3 rfl) ?_
  refine lv_iload_n hx hb dL_law_1138 rfl (lv_at hl 0 rfl) ?_
  refine lv_iconst (v := 2) hx hb dL_law_1139 (by decide) ?_
  refine lv_iadd hx hb dL_law_1140 ?_
  refine va_sld hx hb hX hbl hbA hS (lw_ix hi hL (rg_c (v := 2) (lo := 2) (hi := 2) (by decide)) (by decide)) dL_law_1141 ?_
  refine lw_cM (As := [.int (xs ((nI i) + 1).toNatClampNeg), .int (xs ((nI i) + 2).toNatClampNeg)]) (rest := []) ⟨hx, hb, hml, hown, htg⟩ (e_X7_axle l D E G _ ma M n hn hTM (xs ((nI i) + 1).toNatClampNeg) (xs ((nI i) + 2).toNatClampNeg) hR) (cwV 2 htg (oh_gV q_1286 q_1287 q_1288 q_73 q_1289) rfl rfl rfl pdVX7_axle ⟨Nat.le_of_ble_eq_true rfl, Nat.le_of_ble_eq_true rfl⟩) hK hP hD hG hS hA (va_recv hK (oh_suf_P hP) (ci := 7) (q0 := 0) rfl (oh_wg (by omega) (sM_0 hTM))) rfl hl.1 rfl (Nat.le_of_ble_eq_true rfl) dL_law_1142 ⟨show cN + 0 ≤ 600000 by omega, show sN + 0 ≤ 7302250 by omega⟩ (fun r_6 M_8 H locs hq_7 hP hD hS => ?_)
  have hTM0 := hTM
  obtain ⟨hTM, f_9, hR, hq_7⟩ := hq_7
  have hkp := kept_fr hkp f_9 (by decide)
  have ht1 : gi (C_3 5) 1 = gi (M_8 0) 7 := by rw [show gi (M_8 0) 7 = gi (M 0) 7 from congrArg vi (f_9.2 7 (by decide))]; exact ht1
  have ht3 : ga (C_3 32) = ga (M_8 7) := Eq.trans ht3 (congrArg ga (f_9.1 7 rfl (by decide))).symm
  have htK := htK.m f_9 (by decide)
  have hM_10 := hq_7 A0 hAM0
  have hAM : absM M_8 A0 := absM_fr hAM hTM0 f_9 (by decide) (by decide) (by decide)
  have hUM : absTM M_8 T0 := absTM_eq hUM (f_9.1 14 rfl (by decide)) (congrArg vi (f_9.2 19 (by decide)))
  have hSM : absHM M_8 S0 := hm_fr hSM (f_9.1 1 rfl (by decide)) (f_9.1 2 rfl (by decide)) (f_9.1 3 rfl (by decide)) (f_9.1 6 rfl (by decide))
  refine W.widen (k := cN) (n := sN) (Nat.le_refl _) (Nat.le_refl _) ?_
  refine lv_pop hx hb dL_law_1145 rfl ?_
  refine lv_goto (tgt := 2045) hx hb dL_law_1146 (by decide) ?_
  exact kk ma C_3 M_8 n (cN) (sN) H locs ls hT hTM hR hkp ht1 ht2 ht3 ⟨_, _, hAX, hAM, hok, hUX, hUM, _, hSX, hSM, hSN⟩ htK (by omega) (by omega) hP hD hS hl

set_option maxHeartbeats 4000000 in
set_option maxRecDepth 100000 in
/-- the law at a call of strain -/
theorem lc_strain {p : Program} {e : Env} {s : State} {m : MethodId} {below : List Frame} {meth : Method} {c : Code} (l : Launch) {b L : Nat} {xs : Nat → Int32} (C0 : lw_At p s m meth c b L xs) (hL : L ≤ 4096) {D : va_G} {E : Nat → ClassId} {G : Nat → Nat} {A : Nat → Prop} (hAe : A = fun q => s.heap.size ≤ q) (hK : va_K D vwCl (oh_ty E) s) (hG : oh_G G A s) {a : Nat → Nat} {i : Nat} (hi : i + 8 ≤ L) {ma : Nat → Nat} {C M : Nat → va_E} {n cN sN : Nat} (hT : TyX a E C) (hTM : TyM ma E M) (hR : RelM M) (hkp : KEPT E n ma M) (ht1 : gi (C 5) 1 = gi (M 0) 7) (ht2 : gi (C 0) 2 = 0 ↔ n = 74) (ht3 : ga (C 32) = ga (M 7)) (htA : ∃ (A0 : LA) (T0 : TP), absX 10 C A0 ∧ absM M A0 ∧ okA A0 ∧ absTX 1 16 C T0 ∧ absTM M T0 ∧ ∃ S0 : HZ, absHX C S0 ∧ absHM M S0 ∧ shN (A0 5 0 1) S0) (htK : TIEK n C M) (hcN : cN ≤ 35 + n) (hsN : sN ≤ 1477 + 16 * n) {H : Heap} {locs : List Loc} (hP : va_P D vwCl (oh_W 35 a C ++ oh_W n ma M) H) (hD : va_D A (oh_W 35 a C ++ oh_W n ma M)) (hS : va_S A s.heap H locs) {ls : Array Slot} (hl : lv_has ls 4 [(3, .int (nI i)), (2, .ref (ma 0)), (1, .ref (a 0)), (0, .ref b)]) (kk : ∀ (ma : Nat → Nat) (C M : Nat → va_E) (n cN sN : Nat) (H : Heap) (locs : List Loc) (ls : Array Slot), TyX a E C → TyM ma E M → RelM M → KEPT E n ma M → gi (C 5) 1 = gi (M 0) 7 → (gi (C 0) 2 = 0 ↔ n = 74) → ga (C 32) = ga (M 7) → (∃ (A0 : LA) (T0 : TP), absX 10 C A0 ∧ absM M A0 ∧ okA A0 ∧ absTX 1 16 C T0 ∧ absTM M T0 ∧ ∃ S0 : HZ, absHX C S0 ∧ absHM M S0 ∧ shN (A0 5 0 1) S0) → TIEK n C M → cN ≤ 35 + n → sN ≤ 1477 + 16 * n → va_P D vwCl (oh_W 35 a C ++ oh_W n ma M) H → va_D A (oh_W 35 a C ++ oh_W n ma M) → va_S A s.heap H locs → lv_has ls 4 [(3, .int (nI i)), (2, .ref (ma 0)), (1, .ref (a 0)), (0, .ref b)] → W p l e room_1 s m #[Value.ref b] below meth c H locs cN sN (lw_Z below #[Value.ref b] s) (F0 m 2045 ls [])) : W p l e room_1 s m #[Value.ref b] below meth c H locs cN sN (lw_Z below #[Value.ref b] s) (F0 m 1149 ls []) := by
  obtain ⟨hx, hb, hr, hml, hown, hts, hX, hbl, hlocks, hgv⟩ := id C0
  have hown : s.vm.findClass RL = some m.cls := hown
  have htg : ∀ w ∈ oh_t, w.before _ s = true := fun w h => hts w (List.mem_filter.mp h).1
  have hA : ∀ q, s.heap.size ≤ q → A q := fun q h => by rw [hAe]; exact h
  have hbA : ¬ A b := by rw [hAe]; exact Nat.not_le.mpr hbl
  have hn := hkp.le.1
  have hn8 := hkp.le.2
  have ht10 := ht1
  have ht20 := ht2
  have ht30 := ht3
  obtain ⟨A0, T0, hAX, hAM, hok, hUX, hUM, S0, hSX, hSM, hSN⟩ := htA
  have hAX0 := hAX
  have hAM0 := hAM
  have htK0 := htK
  have hSX0 := hSX
  have hSM0 := hSM
  have hSN0 := hSN
  have hUX0 := hUX
  have hok0 := hok
  refine lv_aload_n hx hb dL_law_1149 rfl (lv_at hl 2 rfl) ?_
  refine lv_aload_n hx hb dL_law_1150 rfl (lv_at hl 3 rfl) ?_
  refine lv_iload_n hx hb dL_law_1151 rfl (lv_at hl 0 rfl) ?_
  refine lv_iconst (v := 1) hx hb dL_law_1152 (by decide) ?_
  refine lv_iadd hx hb dL_law_1153 ?_
  refine va_sld hx hb hX hbl hbA hS (lw_ix hi hL (rg_c (v := 1) (lo := 1) (hi := 1) (by decide)) (by decide)) dL_law_1154 ?_
  refine lv_aload_n hx hb dL_law_1155 rfl (lv_at hl 3 rfl) ?_
  refine lv_iload_n hx hb dL_law_1156 rfl (lv_at hl 0 rfl) ?_
  refine lv_iconst (v := 2) hx hb dL_law_1157 (by decide) ?_
  refine lv_iadd hx hb dL_law_1158 ?_
  refine va_sld hx hb hX hbl hbA hS (lw_ix hi hL (rg_c (v := 2) (lo := 2) (hi := 2) (by decide)) (by decide)) dL_law_1159 ?_
  refine lv_aload_n hx hb dL_law_1160 rfl (lv_at hl 3 rfl) ?_
  refine lv_iload_n hx hb dL_law_1161 rfl (lv_at hl 0 rfl) ?_
  refine lv_iconst (v := 3) hx hb dL_law_1162 (by decide) ?_
  refine lv_iadd hx hb dL_law_1163 ?_
  refine va_sld hx hb hX hbl hbA hS (lw_ix hi hL (rg_c (v := 3) (lo := 3) (hi := 3) (by decide)) (by decide)) dL_law_1164 ?_
  refine lw_cX (As := [.int (xs ((nI i) + 1).toNatClampNeg), .int (xs ((nI i) + 2).toNatClampNeg), .int (xs ((nI i) + 3).toNatClampNeg)]) (rest := []) ⟨hx, hb, hml, hown, htg⟩ (e_X6_strain l D E G _ a C hT (xs ((nI i) + 1).toNatClampNeg) (xs ((nI i) + 2).toNatClampNeg) (xs ((nI i) + 3).toNatClampNeg)) (cwV 3 htg (oh_gV q_719 q_720 q_721 q_66 q_722) rfl rfl rfl pdVX6_strain ⟨Nat.le_of_ble_eq_true rfl, Nat.le_of_ble_eq_true rfl⟩) hK hP hD hG hS hA (va_recv hK (oh_pre_P hP) (ci := 6) (q0 := 0) rfl (oh_wg (by decide) (sX_0 hT))) rfl hl.1 rfl (Nat.le_of_ble_eq_true rfl) dL_law_1165 ⟨show cN + 0 ≤ 600000 by omega, show sN + 0 ≤ 7302250 by omega⟩ (fun r_1 C_3 H locs hq_2 hP hD hS => ?_)
  obtain ⟨hT, f_4, hq_2⟩ := hq_2
  have ht1 : gi (C_3 5) 1 = gi (M 0) 7 := by rw [f_4.1 5 rfl (by decide)]; exact ht1
  have ht2 : gi (C_3 0) 2 = 0 ↔ n = 74 := by rw [show gi (C_3 0) 2 = gi (C 0) 2 from congrArg vi (f_4.2 2 (by decide))]; exact ht2
  have ht3 : ga (C_3 32) = ga (M 7) := Eq.trans (congrArg ga (f_4.1 32 rfl (by decide))) ht3
  have htK := htK.x (fr_all f_4 17 23 (by decide)) (f_4.1 2 rfl (by decide))
  have hX_5 := hq_2 A0 hAX0
  have hAX : absX 10 C_3 A0 := absX_eq hAX (fun k k1 k2 => fr_all f_4 10 15 (by decide) k k1 (by omega))
  have hUX : absTX 1 16 C_3 T0 := absTX_eq hUX (congrArg (fun z => gi z 7) (f_4.1 1 rfl (by decide))) (f_4.1 16 rfl (by decide))
  have hSX : absHX C_3 S0 := hx_fr hSX (f_4.1 29 rfl (by decide)) (f_4.1 30 rfl (by decide))
  refine W.widen (k := cN) (n := sN) (Nat.le_refl _) (Nat.le_refl _) ?_
  refine lv_pop hx hb dL_law_1168 rfl ?_
  refine lv_aload_n hx hb dL_law_1169 rfl (lv_at hl 1 rfl) ?_
  refine lv_aload_n hx hb dL_law_1170 rfl (lv_at hl 3 rfl) ?_
  refine lv_iload_n hx hb dL_law_1171 rfl (lv_at hl 0 rfl) ?_
  refine lv_iconst (v := 1) hx hb dL_law_1172 (by decide) ?_
  refine lv_iadd hx hb dL_law_1173 ?_
  refine va_sld hx hb hX hbl hbA hS (lw_ix hi hL (rg_c (v := 1) (lo := 1) (hi := 1) (by decide)) (by decide)) dL_law_1174 ?_
  refine lv_aload_n hx hb dL_law_1175 rfl (lv_at hl 3 rfl) ?_
  refine lv_iload_n hx hb dL_law_1176 rfl (lv_at hl 0 rfl) ?_
  refine lv_iconst (v := 2) hx hb dL_law_1177 (by decide) ?_
  refine lv_iadd hx hb dL_law_1178 ?_
  refine va_sld hx hb hX hbl hbA hS (lw_ix hi hL (rg_c (v := 2) (lo := 2) (hi := 2) (by decide)) (by decide)) dL_law_1179 ?_
  refine lv_aload_n hx hb dL_law_1180 rfl (lv_at hl 3 rfl) ?_
  refine lv_iload_n hx hb dL_law_1181 rfl (lv_at hl 0 rfl) ?_
  refine lv_iconst (v := 3) hx hb dL_law_1182 (by decide) ?_
  refine lv_iadd hx hb dL_law_1183 ?_
  refine va_sld hx hb hX hbl hbA hS (lw_ix hi hL (rg_c (v := 3) (lo := 3) (hi := 3) (by decide)) (by decide)) dL_law_1184 ?_
  refine lw_cM (As := [.int (xs ((nI i) + 1).toNatClampNeg), .int (xs ((nI i) + 2).toNatClampNeg), .int (xs ((nI i) + 3).toNatClampNeg)]) (rest := []) ⟨hx, hb, hml, hown, htg⟩ (e_X7_strain l D E G _ ma M n hn hTM (xs ((nI i) + 1).toNatClampNeg) (xs ((nI i) + 2).toNatClampNeg) (xs ((nI i) + 3).toNatClampNeg) hR) (cwV 3 htg (oh_gV q_1298 q_1299 q_1300 q_73 q_1301) rfl rfl rfl pdVX7_strain ⟨Nat.le_of_ble_eq_true rfl, Nat.le_of_ble_eq_true rfl⟩) hK hP hD hG hS hA (va_recv hK (oh_suf_P hP) (ci := 7) (q0 := 0) rfl (oh_wg (by omega) (sM_0 hTM))) rfl hl.1 rfl (Nat.le_of_ble_eq_true rfl) dL_law_1185 ⟨show cN + 0 ≤ 600000 by omega, show sN + 0 ≤ 7302250 by omega⟩ (fun r_6 M_8 H locs hq_7 hP hD hS => ?_)
  have hTM0 := hTM
  obtain ⟨hTM, f_9, hR, hq_7⟩ := hq_7
  have hkp := kept_fr hkp f_9 (by decide)
  have ht1 : gi (C_3 5) 1 = gi (M_8 0) 7 := by rw [show gi (M_8 0) 7 = gi (M 0) 7 from congrArg vi (f_9.2 7 (by decide))]; exact ht1
  have ht3 : ga (C_3 32) = ga (M_8 7) := Eq.trans ht3 (congrArg ga (f_9.1 7 rfl (by decide))).symm
  have htK := htK.m f_9 (by decide)
  have hM_10 := hq_7 A0 hAM0
  have hAM : absM M_8 A0 := absM_fr hAM hTM0 f_9 (by decide) (by decide) (by decide)
  have hUM : absTM M_8 T0 := absTM_eq hUM (f_9.1 14 rfl (by decide)) (congrArg vi (f_9.2 19 (by decide)))
  have hSM : absHM M_8 S0 := hm_fr hSM (f_9.1 1 rfl (by decide)) (f_9.1 2 rfl (by decide)) (f_9.1 3 rfl (by decide)) (f_9.1 6 rfl (by decide))
  refine W.widen (k := cN) (n := sN) (Nat.le_refl _) (Nat.le_refl _) ?_
  refine lv_pop hx hb dL_law_1188 rfl ?_
  refine lv_goto (tgt := 2045) hx hb dL_law_1189 (by decide) ?_
  exact kk ma C_3 M_8 n (cN) (sN) H locs ls hT hTM hR hkp ht1 ht2 ht3 ⟨_, _, hAX, hAM, hok, hUX, hUM, _, hSX, hSM, hSN⟩ htK (by omega) (by omega) hP hD hS hl

set_option maxHeartbeats 4000000 in
set_option maxRecDepth 100000 in
/-- the law at a call of needs -/
theorem lc_needs {p : Program} {e : Env} {s : State} {m : MethodId} {below : List Frame} {meth : Method} {c : Code} (l : Launch) {b L : Nat} {xs : Nat → Int32} (C0 : lw_At p s m meth c b L xs) (hL : L ≤ 4096) {D : va_G} {E : Nat → ClassId} {G : Nat → Nat} {A : Nat → Prop} (hAe : A = fun q => s.heap.size ≤ q) (hK : va_K D vwCl (oh_ty E) s) (hG : oh_G G A s) {a : Nat → Nat} {i : Nat} (hi : i + 8 ≤ L) {ma : Nat → Nat} {C M : Nat → va_E} {n cN sN : Nat} (hT : TyX a E C) (hTM : TyM ma E M) (hR : RelM M) (hkp : KEPT E n ma M) (ht1 : gi (C 5) 1 = gi (M 0) 7) (ht2 : gi (C 0) 2 = 0 ↔ n = 74) (ht3 : ga (C 32) = ga (M 7)) (htA : ∃ (A0 : LA) (T0 : TP), absX 10 C A0 ∧ absM M A0 ∧ okA A0 ∧ absTX 1 16 C T0 ∧ absTM M T0 ∧ ∃ S0 : HZ, absHX C S0 ∧ absHM M S0 ∧ shN (A0 5 0 1) S0) (htK : TIEK n C M) (hcN : cN ≤ 35 + n) (hsN : sN ≤ 1477 + 16 * n) {H : Heap} {locs : List Loc} (hP : va_P D vwCl (oh_W 35 a C ++ oh_W n ma M) H) (hD : va_D A (oh_W 35 a C ++ oh_W n ma M)) (hS : va_S A s.heap H locs) {ls : Array Slot} (hl : lv_has ls 4 [(3, .int (nI i)), (2, .ref (ma 0)), (1, .ref (a 0)), (0, .ref b)]) (kk : ∀ (ma : Nat → Nat) (C M : Nat → va_E) (n cN sN : Nat) (H : Heap) (locs : List Loc) (ls : Array Slot), TyX a E C → TyM ma E M → RelM M → KEPT E n ma M → gi (C 5) 1 = gi (M 0) 7 → (gi (C 0) 2 = 0 ↔ n = 74) → ga (C 32) = ga (M 7) → (∃ (A0 : LA) (T0 : TP), absX 10 C A0 ∧ absM M A0 ∧ okA A0 ∧ absTX 1 16 C T0 ∧ absTM M T0 ∧ ∃ S0 : HZ, absHX C S0 ∧ absHM M S0 ∧ shN (A0 5 0 1) S0) → TIEK n C M → cN ≤ 35 + n → sN ≤ 1477 + 16 * n → va_P D vwCl (oh_W 35 a C ++ oh_W n ma M) H → va_D A (oh_W 35 a C ++ oh_W n ma M) → va_S A s.heap H locs → lv_has ls 4 [(3, .int (nI i)), (2, .ref (ma 0)), (1, .ref (a 0)), (0, .ref b)] → W p l e room_1 s m #[Value.ref b] below meth c H locs cN sN (lw_Z below #[Value.ref b] s) (F0 m 2045 ls [])) : W p l e room_1 s m #[Value.ref b] below meth c H locs cN sN (lw_Z below #[Value.ref b] s) (F0 m 1192 ls []) := by
  obtain ⟨hx, hb, hr, hml, hown, hts, hX, hbl, hlocks, hgv⟩ := id C0
  have hown : s.vm.findClass RL = some m.cls := hown
  have htg : ∀ w ∈ oh_t, w.before _ s = true := fun w h => hts w (List.mem_filter.mp h).1
  have hA : ∀ q, s.heap.size ≤ q → A q := fun q h => by rw [hAe]; exact h
  have hbA : ¬ A b := by rw [hAe]; exact Nat.not_le.mpr hbl
  have hn := hkp.le.1
  have hn8 := hkp.le.2
  have ht10 := ht1
  have ht20 := ht2
  have ht30 := ht3
  obtain ⟨A0, T0, hAX, hAM, hok, hUX, hUM, S0, hSX, hSM, hSN⟩ := htA
  have hAX0 := hAX
  have hAM0 := hAM
  have htK0 := htK
  have hSX0 := hSX
  have hSM0 := hSM
  have hSN0 := hSN
  have hUX0 := hUX
  have hok0 := hok
  refine lv_aload_n hx hb dL_law_1192 rfl (lv_at hl 2 rfl) ?_
  refine lv_aload_n hx hb dL_law_1193 rfl (lv_at hl 3 rfl) ?_
  refine lv_iload_n hx hb dL_law_1194 rfl (lv_at hl 0 rfl) ?_
  refine lv_iconst (v := 1) hx hb dL_law_1195 (by decide) ?_
  refine lv_iadd hx hb dL_law_1196 ?_
  refine va_sld hx hb hX hbl hbA hS (lw_ix hi hL (rg_c (v := 1) (lo := 1) (hi := 1) (by decide)) (by decide)) dL_law_1197 ?_
  refine lv_aload_n hx hb dL_law_1198 rfl (lv_at hl 3 rfl) ?_
  refine lv_iload_n hx hb dL_law_1199 rfl (lv_at hl 0 rfl) ?_
  refine lv_iconst (v := 2) hx hb dL_law_1200 (by decide) ?_
  refine lv_iadd hx hb dL_law_1201 ?_
  refine va_sld hx hb hX hbl hbA hS (lw_ix hi hL (rg_c (v := 2) (lo := 2) (hi := 2) (by decide)) (by decide)) dL_law_1202 ?_
  refine lv_aload_n hx hb dL_law_1203 rfl (lv_at hl 3 rfl) ?_
  refine lv_iload_n hx hb dL_law_1204 rfl (lv_at hl 0 rfl) ?_
  refine lv_iconst (v := 3) hx hb dL_law_1205 (by decide) ?_
  refine lv_iadd hx hb dL_law_1206 ?_
  refine va_sld hx hb hX hbl hbA hS (lw_ix hi hL (rg_c (v := 3) (lo := 3) (hi := 3) (by decide)) (by decide)) dL_law_1207 ?_
  refine lw_cX (As := [.int (xs ((nI i) + 1).toNatClampNeg), .int (xs ((nI i) + 2).toNatClampNeg), .int (xs ((nI i) + 3).toNatClampNeg)]) (rest := []) ⟨hx, hb, hml, hown, htg⟩ (e_X6_needs l D E G _ a C hT (xs ((nI i) + 1).toNatClampNeg) (xs ((nI i) + 2).toNatClampNeg) (xs ((nI i) + 3).toNatClampNeg)) (cwV 3 htg (oh_gV q_733 q_734 q_735 q_66 q_736) rfl rfl rfl pdVX6_needs ⟨Nat.le_of_ble_eq_true rfl, Nat.le_of_ble_eq_true rfl⟩) hK hP hD hG hS hA (va_recv hK (oh_pre_P hP) (ci := 6) (q0 := 0) rfl (oh_wg (by decide) (sX_0 hT))) rfl hl.1 rfl (Nat.le_of_ble_eq_true rfl) dL_law_1208 ⟨show cN + 0 ≤ 600000 by omega, show sN + 0 ≤ 7302250 by omega⟩ (fun r_1 C_3 H locs hq_2 hP hD hS => ?_)
  obtain ⟨hT, f_4, hq_2⟩ := hq_2
  have ht1 : gi (C_3 5) 1 = gi (M 0) 7 := by rw [f_4.1 5 rfl (by decide)]; exact ht1
  have ht2 : gi (C_3 0) 2 = 0 ↔ n = 74 := by rw [show gi (C_3 0) 2 = gi (C 0) 2 from congrArg vi (f_4.2 2 (by decide))]; exact ht2
  have ht3 : ga (C_3 32) = ga (M 7) := Eq.trans (congrArg ga (f_4.1 32 rfl (by decide))) ht3
  have htK := htK.x (fr_all f_4 17 23 (by decide)) (f_4.1 2 rfl (by decide))
  have hX_5 := hq_2 A0 hAX0 hok
  have hAX : absX 10 C_3 A0 := absX_eq hAX (fun k k1 k2 => fr_all f_4 10 15 (by decide) k k1 (by omega))
  have hUX : absTX 1 16 C_3 T0 := absTX_eq hUX (congrArg (fun z => gi z 7) (f_4.1 1 rfl (by decide))) (f_4.1 16 rfl (by decide))
  have hSX : absHX C_3 S0 := hx_fr hSX (f_4.1 29 rfl (by decide)) (f_4.1 30 rfl (by decide))
  refine W.widen (k := cN) (n := sN) (Nat.le_refl _) (Nat.le_refl _) ?_
  refine lv_pop hx hb dL_law_1211 rfl ?_
  refine lv_aload_n hx hb dL_law_1212 rfl (lv_at hl 1 rfl) ?_
  refine lv_aload_n hx hb dL_law_1213 rfl (lv_at hl 3 rfl) ?_
  refine lv_iload_n hx hb dL_law_1214 rfl (lv_at hl 0 rfl) ?_
  refine lv_iconst (v := 1) hx hb dL_law_1215 (by decide) ?_
  refine lv_iadd hx hb dL_law_1216 ?_
  refine va_sld hx hb hX hbl hbA hS (lw_ix hi hL (rg_c (v := 1) (lo := 1) (hi := 1) (by decide)) (by decide)) dL_law_1217 ?_
  refine lv_aload_n hx hb dL_law_1218 rfl (lv_at hl 3 rfl) ?_
  refine lv_iload_n hx hb dL_law_1219 rfl (lv_at hl 0 rfl) ?_
  refine lv_iconst (v := 2) hx hb dL_law_1220 (by decide) ?_
  refine lv_iadd hx hb dL_law_1221 ?_
  refine va_sld hx hb hX hbl hbA hS (lw_ix hi hL (rg_c (v := 2) (lo := 2) (hi := 2) (by decide)) (by decide)) dL_law_1222 ?_
  refine lv_aload_n hx hb dL_law_1223 rfl (lv_at hl 3 rfl) ?_
  refine lv_iload_n hx hb dL_law_1224 rfl (lv_at hl 0 rfl) ?_
  refine lv_iconst (v := 3) hx hb dL_law_1225 (by decide) ?_
  refine lv_iadd hx hb dL_law_1226 ?_
  refine va_sld hx hb hX hbl hbA hS (lw_ix hi hL (rg_c (v := 3) (lo := 3) (hi := 3) (by decide)) (by decide)) dL_law_1227 ?_
  refine lw_cM (As := [.int (xs ((nI i) + 1).toNatClampNeg), .int (xs ((nI i) + 2).toNatClampNeg), .int (xs ((nI i) + 3).toNatClampNeg)]) (rest := []) ⟨hx, hb, hml, hown, htg⟩ (e_X7_needs l D E G _ ma M n hn hTM (xs ((nI i) + 1).toNatClampNeg) (xs ((nI i) + 2).toNatClampNeg) (xs ((nI i) + 3).toNatClampNeg) hR) (cwV 3 htg (oh_gV q_1306 q_1307 q_1308 q_73 q_1309) rfl rfl rfl pdVX7_needs ⟨Nat.le_of_ble_eq_true rfl, Nat.le_of_ble_eq_true rfl⟩) hK hP hD hG hS hA (va_recv hK (oh_suf_P hP) (ci := 7) (q0 := 0) rfl (oh_wg (by omega) (sM_0 hTM))) rfl hl.1 rfl (Nat.le_of_ble_eq_true rfl) dL_law_1228 ⟨show cN + 0 ≤ 600000 by omega, show sN + 0 ≤ 7302250 by omega⟩ (fun r_6 M_8 H locs hq_7 hP hD hS => ?_)
  have hTM0 := hTM
  obtain ⟨hTM, f_9, hR, hq_7⟩ := hq_7
  have hkp := kept_fr hkp f_9 (by decide)
  have ht1 : gi (C_3 5) 1 = gi (M_8 0) 7 := by rw [show gi (M_8 0) 7 = gi (M 0) 7 from congrArg vi (f_9.2 7 (by decide))]; exact ht1
  have ht3 : ga (C_3 32) = ga (M_8 7) := Eq.trans ht3 (congrArg ga (f_9.1 7 rfl (by decide))).symm
  have htK := htK.m f_9 (by decide)
  have hM_10 := hq_7 A0 hAM0 hok
  have hAM : absM M_8 A0 := absM_fr hAM hTM0 f_9 (by decide) (by decide) (by decide)
  have hUM : absTM M_8 T0 := absTM_eq hUM (f_9.1 14 rfl (by decide)) (congrArg vi (f_9.2 19 (by decide)))
  have hSM : absHM M_8 S0 := hm_fr hSM (f_9.1 1 rfl (by decide)) (f_9.1 2 rfl (by decide)) (f_9.1 3 rfl (by decide)) (f_9.1 6 rfl (by decide))
  refine W.widen (k := cN) (n := sN) (Nat.le_refl _) (Nat.le_refl _) ?_
  refine lv_pop hx hb dL_law_1231 rfl ?_
  refine lv_goto (tgt := 2045) hx hb dL_law_1232 (by decide) ?_
  exact kk ma C_3 M_8 n (cN) (sN) H locs ls hT hTM hR hkp ht1 ht2 ht3 ⟨_, _, hAX, hAM, hok, hUX, hUM, _, hSX, hSM, hSN⟩ htK (by omega) (by omega) hP hD hS hl

set_option maxHeartbeats 4000000 in
set_option maxRecDepth 100000 in
/-- the law at a call of goes -/
theorem lc_goes {p : Program} {e : Env} {s : State} {m : MethodId} {below : List Frame} {meth : Method} {c : Code} (l : Launch) {b L : Nat} {xs : Nat → Int32} (C0 : lw_At p s m meth c b L xs) (hL : L ≤ 4096) {D : va_G} {E : Nat → ClassId} {G : Nat → Nat} {A : Nat → Prop} (hAe : A = fun q => s.heap.size ≤ q) (hK : va_K D vwCl (oh_ty E) s) (hG : oh_G G A s) {a : Nat → Nat} {i : Nat} (hi : i + 8 ≤ L) {ma : Nat → Nat} {C M : Nat → va_E} {n cN sN : Nat} (hT : TyX a E C) (hTM : TyM ma E M) (hR : RelM M) (hkp : KEPT E n ma M) (ht1 : gi (C 5) 1 = gi (M 0) 7) (ht2 : gi (C 0) 2 = 0 ↔ n = 74) (ht3 : ga (C 32) = ga (M 7)) (htA : ∃ (A0 : LA) (T0 : TP), absX 10 C A0 ∧ absM M A0 ∧ okA A0 ∧ absTX 1 16 C T0 ∧ absTM M T0 ∧ ∃ S0 : HZ, absHX C S0 ∧ absHM M S0 ∧ shN (A0 5 0 1) S0) (htK : TIEK n C M) (hcN : cN ≤ 35 + n) (hsN : sN ≤ 1477 + 16 * n) {H : Heap} {locs : List Loc} (hP : va_P D vwCl (oh_W 35 a C ++ oh_W n ma M) H) (hD : va_D A (oh_W 35 a C ++ oh_W n ma M)) (hS : va_S A s.heap H locs) {ls : Array Slot} (hl : lv_has ls 4 [(3, .int (nI i)), (2, .ref (ma 0)), (1, .ref (a 0)), (0, .ref b)]) (kk : ∀ (ma : Nat → Nat) (C M : Nat → va_E) (n cN sN : Nat) (H : Heap) (locs : List Loc) (ls : Array Slot), TyX a E C → TyM ma E M → RelM M → KEPT E n ma M → gi (C 5) 1 = gi (M 0) 7 → (gi (C 0) 2 = 0 ↔ n = 74) → ga (C 32) = ga (M 7) → (∃ (A0 : LA) (T0 : TP), absX 10 C A0 ∧ absM M A0 ∧ okA A0 ∧ absTX 1 16 C T0 ∧ absTM M T0 ∧ ∃ S0 : HZ, absHX C S0 ∧ absHM M S0 ∧ shN (A0 5 0 1) S0) → TIEK n C M → cN ≤ 35 + n → sN ≤ 1477 + 16 * n → va_P D vwCl (oh_W 35 a C ++ oh_W n ma M) H → va_D A (oh_W 35 a C ++ oh_W n ma M) → va_S A s.heap H locs → lv_has ls 4 [(3, .int (nI i)), (2, .ref (ma 0)), (1, .ref (a 0)), (0, .ref b)] → W p l e room_1 s m #[Value.ref b] below meth c H locs cN sN (lw_Z below #[Value.ref b] s) (F0 m 2045 ls [])) : W p l e room_1 s m #[Value.ref b] below meth c H locs cN sN (lw_Z below #[Value.ref b] s) (F0 m 1235 ls []) := by
  obtain ⟨hx, hb, hr, hml, hown, hts, hX, hbl, hlocks, hgv⟩ := id C0
  have hown : s.vm.findClass RL = some m.cls := hown
  have htg : ∀ w ∈ oh_t, w.before _ s = true := fun w h => hts w (List.mem_filter.mp h).1
  have hA : ∀ q, s.heap.size ≤ q → A q := fun q h => by rw [hAe]; exact h
  have hbA : ¬ A b := by rw [hAe]; exact Nat.not_le.mpr hbl
  have hn := hkp.le.1
  have hn8 := hkp.le.2
  have ht10 := ht1
  have ht20 := ht2
  have ht30 := ht3
  obtain ⟨A0, T0, hAX, hAM, hok, hUX, hUM, S0, hSX, hSM, hSN⟩ := htA
  have hAX0 := hAX
  have hAM0 := hAM
  have htK0 := htK
  have hSX0 := hSX
  have hSM0 := hSM
  have hSN0 := hSN
  have hUX0 := hUX
  have hok0 := hok
  refine lv_aload_n hx hb dL_law_1235 rfl (lv_at hl 2 rfl) ?_
  refine lv_aload_n hx hb dL_law_1236 rfl (lv_at hl 3 rfl) ?_
  refine lv_iload_n hx hb dL_law_1237 rfl (lv_at hl 0 rfl) ?_
  refine lv_iconst (v := 1) hx hb dL_law_1238 (by decide) ?_
  refine lv_iadd hx hb dL_law_1239 ?_
  refine va_sld hx hb hX hbl hbA hS (lw_ix hi hL (rg_c (v := 1) (lo := 1) (hi := 1) (by decide)) (by decide)) dL_law_1240 ?_
  refine lv_aload_n hx hb dL_law_1241 rfl (lv_at hl 3 rfl) ?_
  refine lv_iload_n hx hb dL_law_1242 rfl (lv_at hl 0 rfl) ?_
  refine lv_iconst (v := 2) hx hb dL_law_1243 (by decide) ?_
  refine lv_iadd hx hb dL_law_1244 ?_
  refine va_sld hx hb hX hbl hbA hS (lw_ix hi hL (rg_c (v := 2) (lo := 2) (hi := 2) (by decide)) (by decide)) dL_law_1245 ?_
  refine lv_aload_n hx hb dL_law_1246 rfl (lv_at hl 3 rfl) ?_
  refine lv_iload_n hx hb dL_law_1247 rfl (lv_at hl 0 rfl) ?_
  refine lv_iconst (v := 3) hx hb dL_law_1248 (by decide) ?_
  refine lv_iadd hx hb dL_law_1249 ?_
  refine va_sld hx hb hX hbl hbA hS (lw_ix hi hL (rg_c (v := 3) (lo := 3) (hi := 3) (by decide)) (by decide)) dL_law_1250 ?_
  refine lv_aload_n hx hb dL_law_1251 rfl (lv_at hl 3 rfl) ?_
  refine lv_iload_n hx hb dL_law_1252 rfl (lv_at hl 0 rfl) ?_
  refine lv_iconst (v := 4) hx hb dL_law_1253 (by decide) ?_
  refine lv_iadd hx hb dL_law_1254 ?_
  refine va_sld hx hb hX hbl hbA hS (lw_ix hi hL (rg_c (v := 4) (lo := 4) (hi := 4) (by decide)) (by decide)) dL_law_1255 ?_
  refine lw_cX (As := [.int (xs ((nI i) + 1).toNatClampNeg), .int (xs ((nI i) + 2).toNatClampNeg), .int (xs ((nI i) + 3).toNatClampNeg), .int (xs ((nI i) + 4).toNatClampNeg)]) (rest := []) ⟨hx, hb, hml, hown, htg⟩ (e_X6_goes l D E G _ a C hT (xs ((nI i) + 1).toNatClampNeg) (xs ((nI i) + 2).toNatClampNeg) (xs ((nI i) + 3).toNatClampNeg) (xs ((nI i) + 4).toNatClampNeg)) (cwV 4 htg (oh_gV q_746 q_747 q_748 q_66 q_749) rfl rfl rfl pdVX6_goes ⟨Nat.le_of_ble_eq_true rfl, Nat.le_of_ble_eq_true rfl⟩) hK hP hD hG hS hA (va_recv hK (oh_pre_P hP) (ci := 6) (q0 := 0) rfl (oh_wg (by decide) (sX_0 hT))) rfl hl.1 rfl (Nat.le_of_ble_eq_true rfl) dL_law_1256 ⟨show cN + 0 ≤ 600000 by omega, show sN + 0 ≤ 7302250 by omega⟩ (fun r_1 C_3 H locs hq_2 hP hD hS => ?_)
  obtain ⟨hT, f_4, hq_2⟩ := hq_2
  have ht1 : gi (C_3 5) 1 = gi (M 0) 7 := by rw [f_4.1 5 rfl (by decide)]; exact ht1
  have ht2 : gi (C_3 0) 2 = 0 ↔ n = 74 := by rw [show gi (C_3 0) 2 = gi (C 0) 2 from congrArg vi (f_4.2 2 (by decide))]; exact ht2
  have ht3 : ga (C_3 32) = ga (M 7) := Eq.trans (congrArg ga (f_4.1 32 rfl (by decide))) ht3
  have htK := htK.x (fr_all f_4 17 23 (by decide)) (f_4.1 2 rfl (by decide))
  have hX_5 := hq_2 A0 hAX0 hok
  have hAX : absX 10 C_3 A0 := absX_eq hAX (fun k k1 k2 => fr_all f_4 10 15 (by decide) k k1 (by omega))
  have hUX : absTX 1 16 C_3 T0 := absTX_eq hUX (congrArg (fun z => gi z 7) (f_4.1 1 rfl (by decide))) (f_4.1 16 rfl (by decide))
  have hSX : absHX C_3 S0 := hx_fr hSX (f_4.1 29 rfl (by decide)) (f_4.1 30 rfl (by decide))
  refine W.widen (k := cN) (n := sN) (Nat.le_refl _) (Nat.le_refl _) ?_
  refine lv_pop hx hb dL_law_1259 rfl ?_
  refine lv_aload_n hx hb dL_law_1260 rfl (lv_at hl 1 rfl) ?_
  refine lv_aload_n hx hb dL_law_1261 rfl (lv_at hl 3 rfl) ?_
  refine lv_iload_n hx hb dL_law_1262 rfl (lv_at hl 0 rfl) ?_
  refine lv_iconst (v := 1) hx hb dL_law_1263 (by decide) ?_
  refine lv_iadd hx hb dL_law_1264 ?_
  refine va_sld hx hb hX hbl hbA hS (lw_ix hi hL (rg_c (v := 1) (lo := 1) (hi := 1) (by decide)) (by decide)) dL_law_1265 ?_
  refine lv_aload_n hx hb dL_law_1266 rfl (lv_at hl 3 rfl) ?_
  refine lv_iload_n hx hb dL_law_1267 rfl (lv_at hl 0 rfl) ?_
  refine lv_iconst (v := 2) hx hb dL_law_1268 (by decide) ?_
  refine lv_iadd hx hb dL_law_1269 ?_
  refine va_sld hx hb hX hbl hbA hS (lw_ix hi hL (rg_c (v := 2) (lo := 2) (hi := 2) (by decide)) (by decide)) dL_law_1270 ?_
  refine lv_aload_n hx hb dL_law_1271 rfl (lv_at hl 3 rfl) ?_
  refine lv_iload_n hx hb dL_law_1272 rfl (lv_at hl 0 rfl) ?_
  refine lv_iconst (v := 3) hx hb dL_law_1273 (by decide) ?_
  refine lv_iadd hx hb dL_law_1274 ?_
  refine va_sld hx hb hX hbl hbA hS (lw_ix hi hL (rg_c (v := 3) (lo := 3) (hi := 3) (by decide)) (by decide)) dL_law_1275 ?_
  refine lv_aload_n hx hb dL_law_1276 rfl (lv_at hl 3 rfl) ?_
  refine lv_iload_n hx hb dL_law_1277 rfl (lv_at hl 0 rfl) ?_
  refine lv_iconst (v := 4) hx hb dL_law_1278 (by decide) ?_
  refine lv_iadd hx hb dL_law_1279 ?_
  refine va_sld hx hb hX hbl hbA hS (lw_ix hi hL (rg_c (v := 4) (lo := 4) (hi := 4) (by decide)) (by decide)) dL_law_1280 ?_
  refine lw_cM (As := [.int (xs ((nI i) + 1).toNatClampNeg), .int (xs ((nI i) + 2).toNatClampNeg), .int (xs ((nI i) + 3).toNatClampNeg), .int (xs ((nI i) + 4).toNatClampNeg)]) (rest := []) ⟨hx, hb, hml, hown, htg⟩ (e_X7_goes l D E G _ ma M n hn hTM (xs ((nI i) + 1).toNatClampNeg) (xs ((nI i) + 2).toNatClampNeg) (xs ((nI i) + 3).toNatClampNeg) (xs ((nI i) + 4).toNatClampNeg) hR) (cwV 4 htg (oh_gV q_1314 q_1315 q_1316 q_73 q_1317) rfl rfl rfl pdVX7_goes ⟨Nat.le_of_ble_eq_true rfl, Nat.le_of_ble_eq_true rfl⟩) hK hP hD hG hS hA (va_recv hK (oh_suf_P hP) (ci := 7) (q0 := 0) rfl (oh_wg (by omega) (sM_0 hTM))) rfl hl.1 rfl (Nat.le_of_ble_eq_true rfl) dL_law_1281 ⟨show cN + 0 ≤ 600000 by omega, show sN + 0 ≤ 7302250 by omega⟩ (fun r_6 M_8 H locs hq_7 hP hD hS => ?_)
  have hTM0 := hTM
  obtain ⟨hTM, f_9, hR, hq_7⟩ := hq_7
  have hkp := kept_fr hkp f_9 (by decide)
  have ht1 : gi (C_3 5) 1 = gi (M_8 0) 7 := by rw [show gi (M_8 0) 7 = gi (M 0) 7 from congrArg vi (f_9.2 7 (by decide))]; exact ht1
  have ht3 : ga (C_3 32) = ga (M_8 7) := Eq.trans ht3 (congrArg ga (f_9.1 7 rfl (by decide))).symm
  have htK := htK.m f_9 (by decide)
  have hM_10 := hq_7 A0 hAM0 hok
  have hAM : absM M_8 A0 := absM_fr hAM hTM0 f_9 (by decide) (by decide) (by decide)
  have hUM : absTM M_8 T0 := absTM_eq hUM (f_9.1 14 rfl (by decide)) (congrArg vi (f_9.2 19 (by decide)))
  have hSM : absHM M_8 S0 := hm_fr hSM (f_9.1 1 rfl (by decide)) (f_9.1 2 rfl (by decide)) (f_9.1 3 rfl (by decide)) (f_9.1 6 rfl (by decide))
  refine W.widen (k := cN) (n := sN) (Nat.le_refl _) (Nat.le_refl _) ?_
  refine lv_pop hx hb dL_law_1284 rfl ?_
  refine lv_goto (tgt := 2045) hx hb dL_law_1285 (by decide) ?_
  exact kk ma C_3 M_8 n (cN) (sN) H locs ls hT hTM hR hkp ht1 ht2 ht3 ⟨_, _, hAX, hAM, hok, hUX, hUM, _, hSX, hSM, hSN⟩ htK (by omega) (by omega) hP hD hS hl

set_option maxHeartbeats 4000000 in
set_option maxRecDepth 100000 in
/-- the law at a call of cheapest -/
theorem lc_cheapest {p : Program} {e : Env} {s : State} {m : MethodId} {below : List Frame} {meth : Method} {c : Code} (l : Launch) {b L : Nat} {xs : Nat → Int32} (C0 : lw_At p s m meth c b L xs) (hL : L ≤ 4096) {D : va_G} {E : Nat → ClassId} {G : Nat → Nat} {A : Nat → Prop} (hAe : A = fun q => s.heap.size ≤ q) (hK : va_K D vwCl (oh_ty E) s) (hG : oh_G G A s) {a : Nat → Nat} {i : Nat} (hi : i + 8 ≤ L) {ma : Nat → Nat} {C M : Nat → va_E} {n cN sN : Nat} (hT : TyX a E C) (hTM : TyM ma E M) (hR : RelM M) (hkp : KEPT E n ma M) (ht1 : gi (C 5) 1 = gi (M 0) 7) (ht2 : gi (C 0) 2 = 0 ↔ n = 74) (ht3 : ga (C 32) = ga (M 7)) (htA : ∃ (A0 : LA) (T0 : TP), absX 10 C A0 ∧ absM M A0 ∧ okA A0 ∧ absTX 1 16 C T0 ∧ absTM M T0 ∧ ∃ S0 : HZ, absHX C S0 ∧ absHM M S0 ∧ shN (A0 5 0 1) S0) (htK : TIEK n C M) (hcN : cN ≤ 35 + n) (hsN : sN ≤ 1477 + 16 * n) {H : Heap} {locs : List Loc} (hP : va_P D vwCl (oh_W 35 a C ++ oh_W n ma M) H) (hD : va_D A (oh_W 35 a C ++ oh_W n ma M)) (hS : va_S A s.heap H locs) {ls : Array Slot} (hl : lv_has ls 4 [(3, .int (nI i)), (2, .ref (ma 0)), (1, .ref (a 0)), (0, .ref b)]) (kk : ∀ (ma : Nat → Nat) (C M : Nat → va_E) (n cN sN : Nat) (H : Heap) (locs : List Loc) (ls : Array Slot), TyX a E C → TyM ma E M → RelM M → KEPT E n ma M → gi (C 5) 1 = gi (M 0) 7 → (gi (C 0) 2 = 0 ↔ n = 74) → ga (C 32) = ga (M 7) → (∃ (A0 : LA) (T0 : TP), absX 10 C A0 ∧ absM M A0 ∧ okA A0 ∧ absTX 1 16 C T0 ∧ absTM M T0 ∧ ∃ S0 : HZ, absHX C S0 ∧ absHM M S0 ∧ shN (A0 5 0 1) S0) → TIEK n C M → cN ≤ 35 + n → sN ≤ 1477 + 16 * n → va_P D vwCl (oh_W 35 a C ++ oh_W n ma M) H → va_D A (oh_W 35 a C ++ oh_W n ma M) → va_S A s.heap H locs → lv_has ls 4 [(3, .int (nI i)), (2, .ref (ma 0)), (1, .ref (a 0)), (0, .ref b)] → W p l e room_1 s m #[Value.ref b] below meth c H locs cN sN (lw_Z below #[Value.ref b] s) (F0 m 2045 ls [])) : W p l e room_1 s m #[Value.ref b] below meth c H locs cN sN (lw_Z below #[Value.ref b] s) (F0 m 1288 ls []) := by
  obtain ⟨hx, hb, hr, hml, hown, hts, hX, hbl, hlocks, hgv⟩ := id C0
  have hown : s.vm.findClass RL = some m.cls := hown
  have htg : ∀ w ∈ oh_t, w.before _ s = true := fun w h => hts w (List.mem_filter.mp h).1
  have hA : ∀ q, s.heap.size ≤ q → A q := fun q h => by rw [hAe]; exact h
  have hbA : ¬ A b := by rw [hAe]; exact Nat.not_le.mpr hbl
  have hn := hkp.le.1
  have hn8 := hkp.le.2
  have ht10 := ht1
  have ht20 := ht2
  have ht30 := ht3
  obtain ⟨A0, T0, hAX, hAM, hok, hUX, hUM, S0, hSX, hSM, hSN⟩ := htA
  have hAX0 := hAX
  have hAM0 := hAM
  have htK0 := htK
  have hSX0 := hSX
  have hSM0 := hSM
  have hSN0 := hSN
  have hUX0 := hUX
  have hok0 := hok
  refine lv_aload_n hx hb dL_law_1288 rfl (lv_at hl 2 rfl) ?_
  refine lv_aload_n hx hb dL_law_1289 rfl (lv_at hl 3 rfl) ?_
  refine lv_iload_n hx hb dL_law_1290 rfl (lv_at hl 0 rfl) ?_
  refine lv_iconst (v := 1) hx hb dL_law_1291 (by decide) ?_
  refine lv_iadd hx hb dL_law_1292 ?_
  refine va_sld hx hb hX hbl hbA hS (lw_ix hi hL (rg_c (v := 1) (lo := 1) (hi := 1) (by decide)) (by decide)) dL_law_1293 ?_
  refine lv_aload_n hx hb dL_law_1294 rfl (lv_at hl 3 rfl) ?_
  refine lv_iload_n hx hb dL_law_1295 rfl (lv_at hl 0 rfl) ?_
  refine lv_iconst (v := 2) hx hb dL_law_1296 (by decide) ?_
  refine lv_iadd hx hb dL_law_1297 ?_
  refine va_sld hx hb hX hbl hbA hS (lw_ix hi hL (rg_c (v := 2) (lo := 2) (hi := 2) (by decide)) (by decide)) dL_law_1298 ?_
  refine lv_aload_n hx hb dL_law_1299 rfl (lv_at hl 3 rfl) ?_
  refine lv_iload_n hx hb dL_law_1300 rfl (lv_at hl 0 rfl) ?_
  refine lv_iconst (v := 3) hx hb dL_law_1301 (by decide) ?_
  refine lv_iadd hx hb dL_law_1302 ?_
  refine va_sld hx hb hX hbl hbA hS (lw_ix hi hL (rg_c (v := 3) (lo := 3) (hi := 3) (by decide)) (by decide)) dL_law_1303 ?_
  refine lv_aload_n hx hb dL_law_1304 rfl (lv_at hl 3 rfl) ?_
  refine lv_iload_n hx hb dL_law_1305 rfl (lv_at hl 0 rfl) ?_
  refine lv_iconst (v := 4) hx hb dL_law_1306 (by decide) ?_
  refine lv_iadd hx hb dL_law_1307 ?_
  refine va_sld hx hb hX hbl hbA hS (lw_ix hi hL (rg_c (v := 4) (lo := 4) (hi := 4) (by decide)) (by decide)) dL_law_1308 ?_
  refine lw_cX (As := [.int (xs ((nI i) + 1).toNatClampNeg), .int (xs ((nI i) + 2).toNatClampNeg), .int (xs ((nI i) + 3).toNatClampNeg), .int (xs ((nI i) + 4).toNatClampNeg)]) (rest := []) ⟨hx, hb, hml, hown, htg⟩ (e_X6_cheapest l D E G _ a C hT (xs ((nI i) + 1).toNatClampNeg) (xs ((nI i) + 2).toNatClampNeg) (xs ((nI i) + 3).toNatClampNeg) (xs ((nI i) + 4).toNatClampNeg)) (cwV 4 htg (oh_gV q_772 q_773 q_774 q_66 q_775) rfl rfl rfl pdVX6_cheapest ⟨Nat.le_of_ble_eq_true rfl, Nat.le_of_ble_eq_true rfl⟩) hK hP hD hG hS hA (va_recv hK (oh_pre_P hP) (ci := 6) (q0 := 0) rfl (oh_wg (by decide) (sX_0 hT))) rfl hl.1 rfl (Nat.le_of_ble_eq_true rfl) dL_law_1309 ⟨show cN + 0 ≤ 600000 by omega, show sN + 0 ≤ 7302250 by omega⟩ (fun r_1 C_3 H locs hq_2 hP hD hS => ?_)
  obtain ⟨hT, f_4, hq_2⟩ := hq_2
  have ht1 : gi (C_3 5) 1 = gi (M 0) 7 := by rw [f_4.1 5 rfl (by decide)]; exact ht1
  have ht2 : gi (C_3 0) 2 = 0 ↔ n = 74 := by rw [show gi (C_3 0) 2 = gi (C 0) 2 from congrArg vi (f_4.2 2 (by decide))]; exact ht2
  have ht3 : ga (C_3 32) = ga (M 7) := Eq.trans (congrArg ga (f_4.1 32 rfl (by decide))) ht3
  have htK := htK.x (fr_all f_4 17 23 (by decide)) (f_4.1 2 rfl (by decide))
  have hX_5 := hq_2 A0 hAX0 hok
  have hAX : absX 10 C_3 A0 := absX_eq hAX (fun k k1 k2 => fr_all f_4 10 15 (by decide) k k1 (by omega))
  have hUX : absTX 1 16 C_3 T0 := absTX_eq hUX (congrArg (fun z => gi z 7) (f_4.1 1 rfl (by decide))) (f_4.1 16 rfl (by decide))
  have hSX : absHX C_3 S0 := hx_fr hSX (f_4.1 29 rfl (by decide)) (f_4.1 30 rfl (by decide))
  refine W.widen (k := cN) (n := sN) (Nat.le_refl _) (Nat.le_refl _) ?_
  refine lv_pop hx hb dL_law_1312 rfl ?_
  refine lv_aload_n hx hb dL_law_1313 rfl (lv_at hl 1 rfl) ?_
  refine lv_aload_n hx hb dL_law_1314 rfl (lv_at hl 3 rfl) ?_
  refine lv_iload_n hx hb dL_law_1315 rfl (lv_at hl 0 rfl) ?_
  refine lv_iconst (v := 1) hx hb dL_law_1316 (by decide) ?_
  refine lv_iadd hx hb dL_law_1317 ?_
  refine va_sld hx hb hX hbl hbA hS (lw_ix hi hL (rg_c (v := 1) (lo := 1) (hi := 1) (by decide)) (by decide)) dL_law_1318 ?_
  refine lv_aload_n hx hb dL_law_1319 rfl (lv_at hl 3 rfl) ?_
  refine lv_iload_n hx hb dL_law_1320 rfl (lv_at hl 0 rfl) ?_
  refine lv_iconst (v := 2) hx hb dL_law_1321 (by decide) ?_
  refine lv_iadd hx hb dL_law_1322 ?_
  refine va_sld hx hb hX hbl hbA hS (lw_ix hi hL (rg_c (v := 2) (lo := 2) (hi := 2) (by decide)) (by decide)) dL_law_1323 ?_
  refine lv_aload_n hx hb dL_law_1324 rfl (lv_at hl 3 rfl) ?_
  refine lv_iload_n hx hb dL_law_1325 rfl (lv_at hl 0 rfl) ?_
  refine lv_iconst (v := 3) hx hb dL_law_1326 (by decide) ?_
  refine lv_iadd hx hb dL_law_1327 ?_
  refine va_sld hx hb hX hbl hbA hS (lw_ix hi hL (rg_c (v := 3) (lo := 3) (hi := 3) (by decide)) (by decide)) dL_law_1328 ?_
  refine lv_aload_n hx hb dL_law_1329 rfl (lv_at hl 3 rfl) ?_
  refine lv_iload_n hx hb dL_law_1330 rfl (lv_at hl 0 rfl) ?_
  refine lv_iconst (v := 4) hx hb dL_law_1331 (by decide) ?_
  refine lv_iadd hx hb dL_law_1332 ?_
  refine va_sld hx hb hX hbl hbA hS (lw_ix hi hL (rg_c (v := 4) (lo := 4) (hi := 4) (by decide)) (by decide)) dL_law_1333 ?_
  refine lw_cM (As := [.int (xs ((nI i) + 1).toNatClampNeg), .int (xs ((nI i) + 2).toNatClampNeg), .int (xs ((nI i) + 3).toNatClampNeg), .int (xs ((nI i) + 4).toNatClampNeg)]) (rest := []) ⟨hx, hb, hml, hown, htg⟩ (e_X7_cheapest l D E G _ ma M n hn hTM (xs ((nI i) + 1).toNatClampNeg) (xs ((nI i) + 2).toNatClampNeg) (xs ((nI i) + 3).toNatClampNeg) (xs ((nI i) + 4).toNatClampNeg) hR) (cwV 4 htg (oh_gV q_1338 q_1339 q_1340 q_73 q_1341) rfl rfl rfl pdVX7_cheapest ⟨Nat.le_of_ble_eq_true rfl, Nat.le_of_ble_eq_true rfl⟩) hK hP hD hG hS hA (va_recv hK (oh_suf_P hP) (ci := 7) (q0 := 0) rfl (oh_wg (by omega) (sM_0 hTM))) rfl hl.1 rfl (Nat.le_of_ble_eq_true rfl) dL_law_1334 ⟨show cN + 0 ≤ 600000 by omega, show sN + 0 ≤ 7302250 by omega⟩ (fun r_6 M_8 H locs hq_7 hP hD hS => ?_)
  have hTM0 := hTM
  obtain ⟨hTM, f_9, hR, hq_7⟩ := hq_7
  have hkp := kept_fr hkp f_9 (by decide)
  have ht1 : gi (C_3 5) 1 = gi (M_8 0) 7 := by rw [show gi (M_8 0) 7 = gi (M 0) 7 from congrArg vi (f_9.2 7 (by decide))]; exact ht1
  have ht3 : ga (C_3 32) = ga (M_8 7) := Eq.trans ht3 (congrArg ga (f_9.1 7 rfl (by decide))).symm
  have htK := htK.m f_9 (by decide)
  have hM_10 := hq_7 A0 hAM0 hok
  have hAM : absM M_8 A0 := absM_fr hAM hTM0 f_9 (by decide) (by decide) (by decide)
  have hUM : absTM M_8 T0 := absTM_eq hUM (f_9.1 14 rfl (by decide)) (congrArg vi (f_9.2 19 (by decide)))
  have hSM : absHM M_8 S0 := hm_fr hSM (f_9.1 1 rfl (by decide)) (f_9.1 2 rfl (by decide)) (f_9.1 3 rfl (by decide)) (f_9.1 6 rfl (by decide))
  refine W.widen (k := cN) (n := sN) (Nat.le_refl _) (Nat.le_refl _) ?_
  refine lv_pop hx hb dL_law_1337 rfl ?_
  refine lv_goto (tgt := 2045) hx hb dL_law_1338 (by decide) ?_
  exact kk ma C_3 M_8 n (cN) (sN) H locs ls hT hTM hR hkp ht1 ht2 ht3 ⟨_, _, hAX, hAM, hok, hUX, hUM, _, hSX, hSM, hSN⟩ htK (by omega) (by omega) hP hD hS hl

set_option maxHeartbeats 4000000 in
set_option maxRecDepth 100000 in
/-- the law at a call of soonest -/
theorem lc_soonest {p : Program} {e : Env} {s : State} {m : MethodId} {below : List Frame} {meth : Method} {c : Code} (l : Launch) {b L : Nat} {xs : Nat → Int32} (C0 : lw_At p s m meth c b L xs) (hL : L ≤ 4096) {D : va_G} {E : Nat → ClassId} {G : Nat → Nat} {A : Nat → Prop} (hAe : A = fun q => s.heap.size ≤ q) (hK : va_K D vwCl (oh_ty E) s) (hG : oh_G G A s) {a : Nat → Nat} {i : Nat} (hi : i + 8 ≤ L) {ma : Nat → Nat} {C M : Nat → va_E} {n cN sN : Nat} (hT : TyX a E C) (hTM : TyM ma E M) (hR : RelM M) (hkp : KEPT E n ma M) (ht1 : gi (C 5) 1 = gi (M 0) 7) (ht2 : gi (C 0) 2 = 0 ↔ n = 74) (ht3 : ga (C 32) = ga (M 7)) (htA : ∃ (A0 : LA) (T0 : TP), absX 10 C A0 ∧ absM M A0 ∧ okA A0 ∧ absTX 1 16 C T0 ∧ absTM M T0 ∧ ∃ S0 : HZ, absHX C S0 ∧ absHM M S0 ∧ shN (A0 5 0 1) S0) (htK : TIEK n C M) (hcN : cN ≤ 35 + n) (hsN : sN ≤ 1477 + 16 * n) {H : Heap} {locs : List Loc} (hP : va_P D vwCl (oh_W 35 a C ++ oh_W n ma M) H) (hD : va_D A (oh_W 35 a C ++ oh_W n ma M)) (hS : va_S A s.heap H locs) {ls : Array Slot} (hl : lv_has ls 4 [(3, .int (nI i)), (2, .ref (ma 0)), (1, .ref (a 0)), (0, .ref b)]) (kk : ∀ (ma : Nat → Nat) (C M : Nat → va_E) (n cN sN : Nat) (H : Heap) (locs : List Loc) (ls : Array Slot), TyX a E C → TyM ma E M → RelM M → KEPT E n ma M → gi (C 5) 1 = gi (M 0) 7 → (gi (C 0) 2 = 0 ↔ n = 74) → ga (C 32) = ga (M 7) → (∃ (A0 : LA) (T0 : TP), absX 10 C A0 ∧ absM M A0 ∧ okA A0 ∧ absTX 1 16 C T0 ∧ absTM M T0 ∧ ∃ S0 : HZ, absHX C S0 ∧ absHM M S0 ∧ shN (A0 5 0 1) S0) → TIEK n C M → cN ≤ 35 + n → sN ≤ 1477 + 16 * n → va_P D vwCl (oh_W 35 a C ++ oh_W n ma M) H → va_D A (oh_W 35 a C ++ oh_W n ma M) → va_S A s.heap H locs → lv_has ls 4 [(3, .int (nI i)), (2, .ref (ma 0)), (1, .ref (a 0)), (0, .ref b)] → W p l e room_1 s m #[Value.ref b] below meth c H locs cN sN (lw_Z below #[Value.ref b] s) (F0 m 2045 ls [])) : W p l e room_1 s m #[Value.ref b] below meth c H locs cN sN (lw_Z below #[Value.ref b] s) (F0 m 1341 ls []) := by
  obtain ⟨hx, hb, hr, hml, hown, hts, hX, hbl, hlocks, hgv⟩ := id C0
  have hown : s.vm.findClass RL = some m.cls := hown
  have htg : ∀ w ∈ oh_t, w.before _ s = true := fun w h => hts w (List.mem_filter.mp h).1
  have hA : ∀ q, s.heap.size ≤ q → A q := fun q h => by rw [hAe]; exact h
  have hbA : ¬ A b := by rw [hAe]; exact Nat.not_le.mpr hbl
  have hn := hkp.le.1
  have hn8 := hkp.le.2
  have ht10 := ht1
  have ht20 := ht2
  have ht30 := ht3
  obtain ⟨A0, T0, hAX, hAM, hok, hUX, hUM, S0, hSX, hSM, hSN⟩ := htA
  have hAX0 := hAX
  have hAM0 := hAM
  have htK0 := htK
  have hSX0 := hSX
  have hSM0 := hSM
  have hSN0 := hSN
  have hUX0 := hUX
  have hok0 := hok
  refine lv_aload_n hx hb dL_law_1341 rfl (lv_at hl 2 rfl) ?_
  refine lv_aload_n hx hb dL_law_1342 rfl (lv_at hl 3 rfl) ?_
  refine lv_iload_n hx hb dL_law_1343 rfl (lv_at hl 0 rfl) ?_
  refine lv_iconst (v := 1) hx hb dL_law_1344 (by decide) ?_
  refine lv_iadd hx hb dL_law_1345 ?_
  refine va_sld hx hb hX hbl hbA hS (lw_ix hi hL (rg_c (v := 1) (lo := 1) (hi := 1) (by decide)) (by decide)) dL_law_1346 ?_
  refine lv_aload_n hx hb dL_law_1347 rfl (lv_at hl 3 rfl) ?_
  refine lv_iload_n hx hb dL_law_1348 rfl (lv_at hl 0 rfl) ?_
  refine lv_iconst (v := 2) hx hb dL_law_1349 (by decide) ?_
  refine lv_iadd hx hb dL_law_1350 ?_
  refine va_sld hx hb hX hbl hbA hS (lw_ix hi hL (rg_c (v := 2) (lo := 2) (hi := 2) (by decide)) (by decide)) dL_law_1351 ?_
  refine lv_aload_n hx hb dL_law_1352 rfl (lv_at hl 3 rfl) ?_
  refine lv_iload_n hx hb dL_law_1353 rfl (lv_at hl 0 rfl) ?_
  refine lv_iconst (v := 3) hx hb dL_law_1354 (by decide) ?_
  refine lv_iadd hx hb dL_law_1355 ?_
  refine va_sld hx hb hX hbl hbA hS (lw_ix hi hL (rg_c (v := 3) (lo := 3) (hi := 3) (by decide)) (by decide)) dL_law_1356 ?_
  refine lv_aload_n hx hb dL_law_1357 rfl (lv_at hl 3 rfl) ?_
  refine lv_iload_n hx hb dL_law_1358 rfl (lv_at hl 0 rfl) ?_
  refine lv_iconst (v := 4) hx hb dL_law_1359 (by decide) ?_
  refine lv_iadd hx hb dL_law_1360 ?_
  refine va_sld hx hb hX hbl hbA hS (lw_ix hi hL (rg_c (v := 4) (lo := 4) (hi := 4) (by decide)) (by decide)) dL_law_1361 ?_
  refine lw_cX (As := [.int (xs ((nI i) + 1).toNatClampNeg), .int (xs ((nI i) + 2).toNatClampNeg), .int (xs ((nI i) + 3).toNatClampNeg), .int (xs ((nI i) + 4).toNatClampNeg)]) (rest := []) ⟨hx, hb, hml, hown, htg⟩ (e_X6_soonest l D E G _ a C hT (xs ((nI i) + 1).toNatClampNeg) (xs ((nI i) + 2).toNatClampNeg) (xs ((nI i) + 3).toNatClampNeg) (xs ((nI i) + 4).toNatClampNeg)) (cwV 4 htg (oh_gV q_804 q_805 q_806 q_66 q_807) rfl rfl rfl pdVX6_soonest ⟨Nat.le_of_ble_eq_true rfl, Nat.le_of_ble_eq_true rfl⟩) hK hP hD hG hS hA (va_recv hK (oh_pre_P hP) (ci := 6) (q0 := 0) rfl (oh_wg (by decide) (sX_0 hT))) rfl hl.1 rfl (Nat.le_of_ble_eq_true rfl) dL_law_1362 ⟨show cN + 0 ≤ 600000 by omega, show sN + 0 ≤ 7302250 by omega⟩ (fun r_1 C_3 H locs hq_2 hP hD hS => ?_)
  obtain ⟨hT, f_4, hq_2⟩ := hq_2
  have ht1 : gi (C_3 5) 1 = gi (M 0) 7 := by rw [f_4.1 5 rfl (by decide)]; exact ht1
  have ht2 : gi (C_3 0) 2 = 0 ↔ n = 74 := by rw [show gi (C_3 0) 2 = gi (C 0) 2 from congrArg vi (f_4.2 2 (by decide))]; exact ht2
  have ht3 : ga (C_3 32) = ga (M 7) := Eq.trans (congrArg ga (f_4.1 32 rfl (by decide))) ht3
  have htK := htK.x (fr_all f_4 17 23 (by decide)) (f_4.1 2 rfl (by decide))
  have hX_5 := hq_2 A0 hAX0 hok
  have hAX : absX 10 C_3 A0 := absX_eq hAX (fun k k1 k2 => fr_all f_4 10 15 (by decide) k k1 (by omega))
  have hUX : absTX 1 16 C_3 T0 := absTX_eq hUX (congrArg (fun z => gi z 7) (f_4.1 1 rfl (by decide))) (f_4.1 16 rfl (by decide))
  have hSX : absHX C_3 S0 := hx_fr hSX (f_4.1 29 rfl (by decide)) (f_4.1 30 rfl (by decide))
  refine W.widen (k := cN) (n := sN) (Nat.le_refl _) (Nat.le_refl _) ?_
  refine lv_pop hx hb dL_law_1365 rfl ?_
  refine lv_aload_n hx hb dL_law_1366 rfl (lv_at hl 1 rfl) ?_
  refine lv_aload_n hx hb dL_law_1367 rfl (lv_at hl 3 rfl) ?_
  refine lv_iload_n hx hb dL_law_1368 rfl (lv_at hl 0 rfl) ?_
  refine lv_iconst (v := 1) hx hb dL_law_1369 (by decide) ?_
  refine lv_iadd hx hb dL_law_1370 ?_
  refine va_sld hx hb hX hbl hbA hS (lw_ix hi hL (rg_c (v := 1) (lo := 1) (hi := 1) (by decide)) (by decide)) dL_law_1371 ?_
  refine lv_aload_n hx hb dL_law_1372 rfl (lv_at hl 3 rfl) ?_
  refine lv_iload_n hx hb dL_law_1373 rfl (lv_at hl 0 rfl) ?_
  refine lv_iconst (v := 2) hx hb dL_law_1374 (by decide) ?_
  refine lv_iadd hx hb dL_law_1375 ?_
  refine va_sld hx hb hX hbl hbA hS (lw_ix hi hL (rg_c (v := 2) (lo := 2) (hi := 2) (by decide)) (by decide)) dL_law_1376 ?_
  refine lv_aload_n hx hb dL_law_1377 rfl (lv_at hl 3 rfl) ?_
  refine lv_iload_n hx hb dL_law_1378 rfl (lv_at hl 0 rfl) ?_
  refine lv_iconst (v := 3) hx hb dL_law_1379 (by decide) ?_
  refine lv_iadd hx hb dL_law_1380 ?_
  refine va_sld hx hb hX hbl hbA hS (lw_ix hi hL (rg_c (v := 3) (lo := 3) (hi := 3) (by decide)) (by decide)) dL_law_1381 ?_
  refine lv_aload_n hx hb dL_law_1382 rfl (lv_at hl 3 rfl) ?_
  refine lv_iload_n hx hb dL_law_1383 rfl (lv_at hl 0 rfl) ?_
  refine lv_iconst (v := 4) hx hb dL_law_1384 (by decide) ?_
  refine lv_iadd hx hb dL_law_1385 ?_
  refine va_sld hx hb hX hbl hbA hS (lw_ix hi hL (rg_c (v := 4) (lo := 4) (hi := 4) (by decide)) (by decide)) dL_law_1386 ?_
  refine lw_cM (As := [.int (xs ((nI i) + 1).toNatClampNeg), .int (xs ((nI i) + 2).toNatClampNeg), .int (xs ((nI i) + 3).toNatClampNeg), .int (xs ((nI i) + 4).toNatClampNeg)]) (rest := []) ⟨hx, hb, hml, hown, htg⟩ (e_X7_soonest l D E G _ ma M n hn hTM (xs ((nI i) + 1).toNatClampNeg) (xs ((nI i) + 2).toNatClampNeg) (xs ((nI i) + 3).toNatClampNeg) (xs ((nI i) + 4).toNatClampNeg) hR) (cwV 4 htg (oh_gV q_1360 q_1361 q_1362 q_73 q_1363) rfl rfl rfl pdVX7_soonest ⟨Nat.le_of_ble_eq_true rfl, Nat.le_of_ble_eq_true rfl⟩) hK hP hD hG hS hA (va_recv hK (oh_suf_P hP) (ci := 7) (q0 := 0) rfl (oh_wg (by omega) (sM_0 hTM))) rfl hl.1 rfl (Nat.le_of_ble_eq_true rfl) dL_law_1387 ⟨show cN + 0 ≤ 600000 by omega, show sN + 0 ≤ 7302250 by omega⟩ (fun r_6 M_8 H locs hq_7 hP hD hS => ?_)
  have hTM0 := hTM
  obtain ⟨hTM, f_9, hR, hq_7⟩ := hq_7
  have hkp := kept_fr hkp f_9 (by decide)
  have ht1 : gi (C_3 5) 1 = gi (M_8 0) 7 := by rw [show gi (M_8 0) 7 = gi (M 0) 7 from congrArg vi (f_9.2 7 (by decide))]; exact ht1
  have ht3 : ga (C_3 32) = ga (M_8 7) := Eq.trans ht3 (congrArg ga (f_9.1 7 rfl (by decide))).symm
  have htK := htK.m f_9 (by decide)
  have hM_10 := hq_7 A0 hAM0 hok
  have hAM : absM M_8 A0 := absM_fr hAM hTM0 f_9 (by decide) (by decide) (by decide)
  have hUM : absTM M_8 T0 := absTM_eq hUM (f_9.1 14 rfl (by decide)) (congrArg vi (f_9.2 19 (by decide)))
  have hSM : absHM M_8 S0 := hm_fr hSM (f_9.1 1 rfl (by decide)) (f_9.1 2 rfl (by decide)) (f_9.1 3 rfl (by decide)) (f_9.1 6 rfl (by decide))
  refine W.widen (k := cN) (n := sN) (Nat.le_refl _) (Nat.le_refl _) ?_
  refine lv_pop hx hb dL_law_1390 rfl ?_
  refine lv_goto (tgt := 2045) hx hb dL_law_1391 (by decide) ?_
  exact kk ma C_3 M_8 n (cN) (sN) H locs ls hT hTM hR hkp ht1 ht2 ht3 ⟨_, _, hAX, hAM, hok, hUX, hUM, _, hSX, hSM, hSN⟩ htK (by omega) (by omega) hP hD hS hl

set_option maxHeartbeats 4000000 in
set_option maxRecDepth 100000 in
/-- the law at a call of again -/
theorem lc_again {p : Program} {e : Env} {s : State} {m : MethodId} {below : List Frame} {meth : Method} {c : Code} (l : Launch) {b L : Nat} {xs : Nat → Int32} (C0 : lw_At p s m meth c b L xs) (hL : L ≤ 4096) {D : va_G} {E : Nat → ClassId} {G : Nat → Nat} {A : Nat → Prop} (hAe : A = fun q => s.heap.size ≤ q) (hK : va_K D vwCl (oh_ty E) s) (hG : oh_G G A s) {a : Nat → Nat} {i : Nat} (hi : i + 8 ≤ L) {ma : Nat → Nat} {C M : Nat → va_E} {n cN sN : Nat} (hT : TyX a E C) (hTM : TyM ma E M) (hR : RelM M) (hkp : KEPT E n ma M) (ht1 : gi (C 5) 1 = gi (M 0) 7) (ht2 : gi (C 0) 2 = 0 ↔ n = 74) (ht3 : ga (C 32) = ga (M 7)) (htA : ∃ (A0 : LA) (T0 : TP), absX 10 C A0 ∧ absM M A0 ∧ okA A0 ∧ absTX 1 16 C T0 ∧ absTM M T0 ∧ ∃ S0 : HZ, absHX C S0 ∧ absHM M S0 ∧ shN (A0 5 0 1) S0) (htK : TIEK n C M) (hcN : cN ≤ 35 + n) (hsN : sN ≤ 1477 + 16 * n) {H : Heap} {locs : List Loc} (hP : va_P D vwCl (oh_W 35 a C ++ oh_W n ma M) H) (hD : va_D A (oh_W 35 a C ++ oh_W n ma M)) (hS : va_S A s.heap H locs) {ls : Array Slot} (hl : lv_has ls 4 [(3, .int (nI i)), (2, .ref (ma 0)), (1, .ref (a 0)), (0, .ref b)]) (kk : ∀ (ma : Nat → Nat) (C M : Nat → va_E) (n cN sN : Nat) (H : Heap) (locs : List Loc) (ls : Array Slot), TyX a E C → TyM ma E M → RelM M → KEPT E n ma M → gi (C 5) 1 = gi (M 0) 7 → (gi (C 0) 2 = 0 ↔ n = 74) → ga (C 32) = ga (M 7) → (∃ (A0 : LA) (T0 : TP), absX 10 C A0 ∧ absM M A0 ∧ okA A0 ∧ absTX 1 16 C T0 ∧ absTM M T0 ∧ ∃ S0 : HZ, absHX C S0 ∧ absHM M S0 ∧ shN (A0 5 0 1) S0) → TIEK n C M → cN ≤ 35 + n → sN ≤ 1477 + 16 * n → va_P D vwCl (oh_W 35 a C ++ oh_W n ma M) H → va_D A (oh_W 35 a C ++ oh_W n ma M) → va_S A s.heap H locs → lv_has ls 4 [(3, .int (nI i)), (2, .ref (ma 0)), (1, .ref (a 0)), (0, .ref b)] → W p l e room_1 s m #[Value.ref b] below meth c H locs cN sN (lw_Z below #[Value.ref b] s) (F0 m 2045 ls [])) : W p l e room_1 s m #[Value.ref b] below meth c H locs cN sN (lw_Z below #[Value.ref b] s) (F0 m 1394 ls []) := by
  obtain ⟨hx, hb, hr, hml, hown, hts, hX, hbl, hlocks, hgv⟩ := id C0
  have hown : s.vm.findClass RL = some m.cls := hown
  have htg : ∀ w ∈ oh_t, w.before _ s = true := fun w h => hts w (List.mem_filter.mp h).1
  have hA : ∀ q, s.heap.size ≤ q → A q := fun q h => by rw [hAe]; exact h
  have hbA : ¬ A b := by rw [hAe]; exact Nat.not_le.mpr hbl
  have hn := hkp.le.1
  have hn8 := hkp.le.2
  have ht10 := ht1
  have ht20 := ht2
  have ht30 := ht3
  obtain ⟨A0, T0, hAX, hAM, hok, hUX, hUM, S0, hSX, hSM, hSN⟩ := htA
  have hAX0 := hAX
  have hAM0 := hAM
  have htK0 := htK
  have hSX0 := hSX
  have hSM0 := hSM
  have hSN0 := hSN
  have hUX0 := hUX
  have hok0 := hok
  refine lv_aload_n hx hb dL_law_1394 rfl (lv_at hl 2 rfl) ?_
  refine lv_aload_n hx hb dL_law_1395 rfl (lv_at hl 3 rfl) ?_
  refine lv_iload_n hx hb dL_law_1396 rfl (lv_at hl 0 rfl) ?_
  refine lv_iconst (v := 1) hx hb dL_law_1397 (by decide) ?_
  refine lv_iadd hx hb dL_law_1398 ?_
  refine va_sld hx hb hX hbl hbA hS (lw_ix hi hL (rg_c (v := 1) (lo := 1) (hi := 1) (by decide)) (by decide)) dL_law_1399 ?_
  refine lv_aload_n hx hb dL_law_1400 rfl (lv_at hl 3 rfl) ?_
  refine lv_iload_n hx hb dL_law_1401 rfl (lv_at hl 0 rfl) ?_
  refine lv_iconst (v := 2) hx hb dL_law_1402 (by decide) ?_
  refine lv_iadd hx hb dL_law_1403 ?_
  refine va_sld hx hb hX hbl hbA hS (lw_ix hi hL (rg_c (v := 2) (lo := 2) (hi := 2) (by decide)) (by decide)) dL_law_1404 ?_
  refine lv_aload_n hx hb dL_law_1405 rfl (lv_at hl 3 rfl) ?_
  refine lv_iload_n hx hb dL_law_1406 rfl (lv_at hl 0 rfl) ?_
  refine lv_iconst (v := 3) hx hb dL_law_1407 (by decide) ?_
  refine lv_iadd hx hb dL_law_1408 ?_
  refine va_sld hx hb hX hbl hbA hS (lw_ix hi hL (rg_c (v := 3) (lo := 3) (hi := 3) (by decide)) (by decide)) dL_law_1409 ?_
  refine lv_aload_n hx hb dL_law_1410 rfl (lv_at hl 3 rfl) ?_
  refine lv_iload_n hx hb dL_law_1411 rfl (lv_at hl 0 rfl) ?_
  refine lv_iconst (v := 4) hx hb dL_law_1412 (by decide) ?_
  refine lv_iadd hx hb dL_law_1413 ?_
  refine va_sld hx hb hX hbl hbA hS (lw_ix hi hL (rg_c (v := 4) (lo := 4) (hi := 4) (by decide)) (by decide)) dL_law_1414 ?_
  refine lv_aload_n hx hb dL_law_1415 rfl (lv_at hl 3 rfl) ?_
  refine lv_iload_n hx hb dL_law_1416 rfl (lv_at hl 0 rfl) ?_
  refine lv_iconst (v := 5) hx hb dL_law_1417 (by decide) ?_
  refine lv_iadd hx hb dL_law_1418 ?_
  refine va_sld hx hb hX hbl hbA hS (lw_ix hi hL (rg_c (v := 5) (lo := 5) (hi := 5) (by decide)) (by decide)) dL_law_1419 ?_
  refine lw_cX (As := [.int (xs ((nI i) + 1).toNatClampNeg), .int (xs ((nI i) + 2).toNatClampNeg), .int (xs ((nI i) + 3).toNatClampNeg), .int (xs ((nI i) + 4).toNatClampNeg), .int (xs ((nI i) + 5).toNatClampNeg)]) (rest := []) ⟨hx, hb, hml, hown, htg⟩ (e_X6_again l D E G _ a C hT (xs ((nI i) + 1).toNatClampNeg) (xs ((nI i) + 2).toNatClampNeg) (xs ((nI i) + 3).toNatClampNeg) (xs ((nI i) + 4).toNatClampNeg) (xs ((nI i) + 5).toNatClampNeg)) (cwV 5 htg (oh_gV q_813 q_814 q_815 q_66 q_816) rfl rfl rfl pdVX6_again ⟨Nat.le_of_ble_eq_true rfl, Nat.le_of_ble_eq_true rfl⟩) hK hP hD hG hS hA (va_recv hK (oh_pre_P hP) (ci := 6) (q0 := 0) rfl (oh_wg (by decide) (sX_0 hT))) rfl hl.1 rfl (Nat.le_of_ble_eq_true rfl) dL_law_1420 ⟨show cN + 0 ≤ 600000 by omega, show sN + 0 ≤ 7302250 by omega⟩ (fun r_1 C_3 H locs hq_2 hP hD hS => ?_)
  obtain ⟨hT, f_4, hq_2⟩ := hq_2
  have ht1 : gi (C_3 5) 1 = gi (M 0) 7 := by rw [f_4.1 5 rfl (by decide)]; exact ht1
  have ht2 : gi (C_3 0) 2 = 0 ↔ n = 74 := by rw [show gi (C_3 0) 2 = gi (C 0) 2 from congrArg vi (f_4.2 2 (by decide))]; exact ht2
  have ht3 : ga (C_3 32) = ga (M 7) := Eq.trans (congrArg ga (f_4.1 32 rfl (by decide))) ht3
  have htK := htK.x (fr_all f_4 17 23 (by decide)) (f_4.1 2 rfl (by decide))
  have hX_5 := hq_2 A0 hAX0 hok
  have hAX : absX 10 C_3 A0 := absX_eq hAX (fun k k1 k2 => fr_all f_4 10 15 (by decide) k k1 (by omega))
  have hUX : absTX 1 16 C_3 T0 := absTX_eq hUX (congrArg (fun z => gi z 7) (f_4.1 1 rfl (by decide))) (f_4.1 16 rfl (by decide))
  have hSX : absHX C_3 S0 := hx_fr hSX (f_4.1 29 rfl (by decide)) (f_4.1 30 rfl (by decide))
  refine W.widen (k := cN) (n := sN) (Nat.le_refl _) (Nat.le_refl _) ?_
  refine lv_pop hx hb dL_law_1423 rfl ?_
  refine lv_aload_n hx hb dL_law_1424 rfl (lv_at hl 1 rfl) ?_
  refine lv_aload_n hx hb dL_law_1425 rfl (lv_at hl 3 rfl) ?_
  refine lv_iload_n hx hb dL_law_1426 rfl (lv_at hl 0 rfl) ?_
  refine lv_iconst (v := 1) hx hb dL_law_1427 (by decide) ?_
  refine lv_iadd hx hb dL_law_1428 ?_
  refine va_sld hx hb hX hbl hbA hS (lw_ix hi hL (rg_c (v := 1) (lo := 1) (hi := 1) (by decide)) (by decide)) dL_law_1429 ?_
  refine lv_aload_n hx hb dL_law_1430 rfl (lv_at hl 3 rfl) ?_
  refine lv_iload_n hx hb dL_law_1431 rfl (lv_at hl 0 rfl) ?_
  refine lv_iconst (v := 2) hx hb dL_law_1432 (by decide) ?_
  refine lv_iadd hx hb dL_law_1433 ?_
  refine va_sld hx hb hX hbl hbA hS (lw_ix hi hL (rg_c (v := 2) (lo := 2) (hi := 2) (by decide)) (by decide)) dL_law_1434 ?_
  refine lv_aload_n hx hb dL_law_1435 rfl (lv_at hl 3 rfl) ?_
  refine lv_iload_n hx hb dL_law_1436 rfl (lv_at hl 0 rfl) ?_
  refine lv_iconst (v := 3) hx hb dL_law_1437 (by decide) ?_
  refine lv_iadd hx hb dL_law_1438 ?_
  refine va_sld hx hb hX hbl hbA hS (lw_ix hi hL (rg_c (v := 3) (lo := 3) (hi := 3) (by decide)) (by decide)) dL_law_1439 ?_
  refine lv_aload_n hx hb dL_law_1440 rfl (lv_at hl 3 rfl) ?_
  refine lv_iload_n hx hb dL_law_1441 rfl (lv_at hl 0 rfl) ?_
  refine lv_iconst (v := 4) hx hb dL_law_1442 (by decide) ?_
  refine lv_iadd hx hb dL_law_1443 ?_
  refine va_sld hx hb hX hbl hbA hS (lw_ix hi hL (rg_c (v := 4) (lo := 4) (hi := 4) (by decide)) (by decide)) dL_law_1444 ?_
  refine lv_aload_n hx hb dL_law_1445 rfl (lv_at hl 3 rfl) ?_
  refine lv_iload_n hx hb dL_law_1446 rfl (lv_at hl 0 rfl) ?_
  refine lv_iconst (v := 5) hx hb dL_law_1447 (by decide) ?_
  refine lv_iadd hx hb dL_law_1448 ?_
  refine va_sld hx hb hX hbl hbA hS (lw_ix hi hL (rg_c (v := 5) (lo := 5) (hi := 5) (by decide)) (by decide)) dL_law_1449 ?_
  refine lw_cM (As := [.int (xs ((nI i) + 1).toNatClampNeg), .int (xs ((nI i) + 2).toNatClampNeg), .int (xs ((nI i) + 3).toNatClampNeg), .int (xs ((nI i) + 4).toNatClampNeg), .int (xs ((nI i) + 5).toNatClampNeg)]) (rest := []) ⟨hx, hb, hml, hown, htg⟩ (e_X7_again l D E G _ ma M n hn hTM (xs ((nI i) + 1).toNatClampNeg) (xs ((nI i) + 2).toNatClampNeg) (xs ((nI i) + 3).toNatClampNeg) (xs ((nI i) + 4).toNatClampNeg) (xs ((nI i) + 5).toNatClampNeg) hR) (cwV 5 htg (oh_gV q_1364 q_1343 q_1344 q_73 q_1345) rfl rfl rfl pdVX7_again ⟨Nat.le_of_ble_eq_true rfl, Nat.le_of_ble_eq_true rfl⟩) hK hP hD hG hS hA (va_recv hK (oh_suf_P hP) (ci := 7) (q0 := 0) rfl (oh_wg (by omega) (sM_0 hTM))) rfl hl.1 rfl (Nat.le_of_ble_eq_true rfl) dL_law_1450 ⟨show cN + 0 ≤ 600000 by omega, show sN + 0 ≤ 7302250 by omega⟩ (fun r_6 M_8 H locs hq_7 hP hD hS => ?_)
  have hTM0 := hTM
  obtain ⟨hTM, f_9, hR, hq_7⟩ := hq_7
  have hkp := kept_fr hkp f_9 (by decide)
  have ht1 : gi (C_3 5) 1 = gi (M_8 0) 7 := by rw [show gi (M_8 0) 7 = gi (M 0) 7 from congrArg vi (f_9.2 7 (by decide))]; exact ht1
  have ht3 : ga (C_3 32) = ga (M_8 7) := Eq.trans ht3 (congrArg ga (f_9.1 7 rfl (by decide))).symm
  have htK := htK.m f_9 (by decide)
  have hM_10 := hq_7 A0 hAM0 hok
  have hAM : absM M_8 A0 := absM_fr hAM hTM0 f_9 (by decide) (by decide) (by decide)
  have hUM : absTM M_8 T0 := absTM_eq hUM (f_9.1 14 rfl (by decide)) (congrArg vi (f_9.2 19 (by decide)))
  have hSM : absHM M_8 S0 := hm_fr hSM (f_9.1 1 rfl (by decide)) (f_9.1 2 rfl (by decide)) (f_9.1 3 rfl (by decide)) (f_9.1 6 rfl (by decide))
  refine W.widen (k := cN) (n := sN) (Nat.le_refl _) (Nat.le_refl _) ?_
  refine lv_pop hx hb dL_law_1453 rfl ?_
  refine lv_goto (tgt := 2045) hx hb dL_law_1454 (by decide) ?_
  exact kk ma C_3 M_8 n (cN) (sN) H locs ls hT hTM hR hkp ht1 ht2 ht3 ⟨_, _, hAX, hAM, hok, hUX, hUM, _, hSX, hSM, hSN⟩ htK (by omega) (by omega) hP hD hS hl

set_option maxHeartbeats 4000000 in
set_option maxRecDepth 100000 in
/-- the law at a call of best -/
theorem lc_best {p : Program} {e : Env} {s : State} {m : MethodId} {below : List Frame} {meth : Method} {c : Code} (l : Launch) {b L : Nat} {xs : Nat → Int32} (C0 : lw_At p s m meth c b L xs) (hL : L ≤ 4096) {D : va_G} {E : Nat → ClassId} {G : Nat → Nat} {A : Nat → Prop} (hAe : A = fun q => s.heap.size ≤ q) (hK : va_K D vwCl (oh_ty E) s) (hG : oh_G G A s) {a : Nat → Nat} {i : Nat} (hi : i + 8 ≤ L) {ma : Nat → Nat} {C M : Nat → va_E} {n cN sN : Nat} (hT : TyX a E C) (hTM : TyM ma E M) (hR : RelM M) (hkp : KEPT E n ma M) (ht1 : gi (C 5) 1 = gi (M 0) 7) (ht2 : gi (C 0) 2 = 0 ↔ n = 74) (ht3 : ga (C 32) = ga (M 7)) (htA : ∃ (A0 : LA) (T0 : TP), absX 10 C A0 ∧ absM M A0 ∧ okA A0 ∧ absTX 1 16 C T0 ∧ absTM M T0 ∧ ∃ S0 : HZ, absHX C S0 ∧ absHM M S0 ∧ shN (A0 5 0 1) S0) (htK : TIEK n C M) (hcN : cN ≤ 35 + n) (hsN : sN ≤ 1477 + 16 * n) {H : Heap} {locs : List Loc} (hP : va_P D vwCl (oh_W 35 a C ++ oh_W n ma M) H) (hD : va_D A (oh_W 35 a C ++ oh_W n ma M)) (hS : va_S A s.heap H locs) {ls : Array Slot} (hl : lv_has ls 4 [(3, .int (nI i)), (2, .ref (ma 0)), (1, .ref (a 0)), (0, .ref b)]) (kk : ∀ (ma : Nat → Nat) (C M : Nat → va_E) (n cN sN : Nat) (H : Heap) (locs : List Loc) (ls : Array Slot), TyX a E C → TyM ma E M → RelM M → KEPT E n ma M → gi (C 5) 1 = gi (M 0) 7 → (gi (C 0) 2 = 0 ↔ n = 74) → ga (C 32) = ga (M 7) → (∃ (A0 : LA) (T0 : TP), absX 10 C A0 ∧ absM M A0 ∧ okA A0 ∧ absTX 1 16 C T0 ∧ absTM M T0 ∧ ∃ S0 : HZ, absHX C S0 ∧ absHM M S0 ∧ shN (A0 5 0 1) S0) → TIEK n C M → cN ≤ 35 + n → sN ≤ 1477 + 16 * n → va_P D vwCl (oh_W 35 a C ++ oh_W n ma M) H → va_D A (oh_W 35 a C ++ oh_W n ma M) → va_S A s.heap H locs → lv_has ls 4 [(3, .int (nI i)), (2, .ref (ma 0)), (1, .ref (a 0)), (0, .ref b)] → W p l e room_1 s m #[Value.ref b] below meth c H locs cN sN (lw_Z below #[Value.ref b] s) (F0 m 2045 ls [])) : W p l e room_1 s m #[Value.ref b] below meth c H locs cN sN (lw_Z below #[Value.ref b] s) (F0 m 1457 ls []) := by
  obtain ⟨hx, hb, hr, hml, hown, hts, hX, hbl, hlocks, hgv⟩ := id C0
  have hown : s.vm.findClass RL = some m.cls := hown
  have htg : ∀ w ∈ oh_t, w.before _ s = true := fun w h => hts w (List.mem_filter.mp h).1
  have hA : ∀ q, s.heap.size ≤ q → A q := fun q h => by rw [hAe]; exact h
  have hbA : ¬ A b := by rw [hAe]; exact Nat.not_le.mpr hbl
  have hn := hkp.le.1
  have hn8 := hkp.le.2
  have ht10 := ht1
  have ht20 := ht2
  have ht30 := ht3
  obtain ⟨A0, T0, hAX, hAM, hok, hUX, hUM, S0, hSX, hSM, hSN⟩ := htA
  have hAX0 := hAX
  have hAM0 := hAM
  have htK0 := htK
  have hSX0 := hSX
  have hSM0 := hSM
  have hSN0 := hSN
  have hUX0 := hUX
  have hok0 := hok
  refine lv_aload_n hx hb dL_law_1457 rfl (lv_at hl 2 rfl) ?_
  refine lv_aload_n hx hb dL_law_1458 rfl (lv_at hl 3 rfl) ?_
  refine lv_iload_n hx hb dL_law_1459 rfl (lv_at hl 0 rfl) ?_
  refine lv_iconst (v := 1) hx hb dL_law_1460 (by decide) ?_
  refine lv_iadd hx hb dL_law_1461 ?_
  refine va_sld hx hb hX hbl hbA hS (lw_ix hi hL (rg_c (v := 1) (lo := 1) (hi := 1) (by decide)) (by decide)) dL_law_1462 ?_
  refine lv_aload_n hx hb dL_law_1463 rfl (lv_at hl 3 rfl) ?_
  refine lv_iload_n hx hb dL_law_1464 rfl (lv_at hl 0 rfl) ?_
  refine lv_iconst (v := 2) hx hb dL_law_1465 (by decide) ?_
  refine lv_iadd hx hb dL_law_1466 ?_
  refine va_sld hx hb hX hbl hbA hS (lw_ix hi hL (rg_c (v := 2) (lo := 2) (hi := 2) (by decide)) (by decide)) dL_law_1467 ?_
  refine lv_aload_n hx hb dL_law_1468 rfl (lv_at hl 3 rfl) ?_
  refine lv_iload_n hx hb dL_law_1469 rfl (lv_at hl 0 rfl) ?_
  refine lv_iconst (v := 3) hx hb dL_law_1470 (by decide) ?_
  refine lv_iadd hx hb dL_law_1471 ?_
  refine va_sld hx hb hX hbl hbA hS (lw_ix hi hL (rg_c (v := 3) (lo := 3) (hi := 3) (by decide)) (by decide)) dL_law_1472 ?_
  refine lw_cX (As := [.int (xs ((nI i) + 1).toNatClampNeg), .int (xs ((nI i) + 2).toNatClampNeg), .int (xs ((nI i) + 3).toNatClampNeg)]) (rest := []) ⟨hx, hb, hml, hown, htg⟩ (c_X6_best l D E G _ a C hT (xs ((nI i) + 1).toNatClampNeg) (xs ((nI i) + 2).toNatClampNeg) (xs ((nI i) + 3).toNatClampNeg)) (cwV 3 htg (oh_gV q_817 q_818 q_819 q_66 q_820) rfl rfl rfl pdVX6_best ⟨Nat.le_of_ble_eq_true rfl, Nat.le_of_ble_eq_true rfl⟩) hK hP hD hG hS hA (va_recv hK (oh_pre_P hP) (ci := 6) (q0 := 0) rfl (oh_wg (by decide) (sX_0 hT))) rfl hl.1 rfl (Nat.le_of_ble_eq_true rfl) dL_law_1473 ⟨show cN + 0 ≤ 600000 by omega, show sN + 0 ≤ 7302250 by omega⟩ (fun r_1 C_3 H locs hq_2 hP hD hS => ?_)
  obtain ⟨hT, f_4, hq_2⟩ := hq_2
  have ht1 : gi (C_3 5) 1 = gi (M 0) 7 := by rw [f_4.1 5 rfl (by decide)]; exact ht1
  have ht2 : gi (C_3 0) 2 = 0 ↔ n = 74 := by rw [show gi (C_3 0) 2 = gi (C 0) 2 from congrArg vi (f_4.2 2 (by decide))]; exact ht2
  have ht3 : ga (C_3 32) = ga (M 7) := Eq.trans (congrArg ga (f_4.1 32 rfl (by decide))) ht3
  have htK := htK.x (fr_all f_4 17 23 (by decide)) (f_4.1 2 rfl (by decide))
  have hAX : absX 10 C_3 A0 := absX_eq hAX (fun k k1 k2 => fr_all f_4 10 15 (by decide) k k1 (by omega))
  have hUX : absTX 1 16 C_3 T0 := absTX_eq hUX (congrArg (fun z => gi z 7) (f_4.1 1 rfl (by decide))) (f_4.1 16 rfl (by decide))
  have hSX : absHX C_3 S0 := hx_fr hSX (f_4.1 29 rfl (by decide)) (f_4.1 30 rfl (by decide))
  refine W.widen (k := cN) (n := sN) (Nat.le_refl _) (Nat.le_refl _) ?_
  refine lv_pop hx hb dL_law_1476 rfl ?_
  refine lv_aload_n hx hb dL_law_1477 rfl (lv_at hl 1 rfl) ?_
  refine lv_aload_n hx hb dL_law_1478 rfl (lv_at hl 3 rfl) ?_
  refine lv_iload_n hx hb dL_law_1479 rfl (lv_at hl 0 rfl) ?_
  refine lv_iconst (v := 1) hx hb dL_law_1480 (by decide) ?_
  refine lv_iadd hx hb dL_law_1481 ?_
  refine va_sld hx hb hX hbl hbA hS (lw_ix hi hL (rg_c (v := 1) (lo := 1) (hi := 1) (by decide)) (by decide)) dL_law_1482 ?_
  refine lv_aload_n hx hb dL_law_1483 rfl (lv_at hl 3 rfl) ?_
  refine lv_iload_n hx hb dL_law_1484 rfl (lv_at hl 0 rfl) ?_
  refine lv_iconst (v := 2) hx hb dL_law_1485 (by decide) ?_
  refine lv_iadd hx hb dL_law_1486 ?_
  refine va_sld hx hb hX hbl hbA hS (lw_ix hi hL (rg_c (v := 2) (lo := 2) (hi := 2) (by decide)) (by decide)) dL_law_1487 ?_
  refine lv_aload_n hx hb dL_law_1488 rfl (lv_at hl 3 rfl) ?_
  refine lv_iload_n hx hb dL_law_1489 rfl (lv_at hl 0 rfl) ?_
  refine lv_iconst (v := 3) hx hb dL_law_1490 (by decide) ?_
  refine lv_iadd hx hb dL_law_1491 ?_
  refine va_sld hx hb hX hbl hbA hS (lw_ix hi hL (rg_c (v := 3) (lo := 3) (hi := 3) (by decide)) (by decide)) dL_law_1492 ?_
  refine lw_cM (As := [.int (xs ((nI i) + 1).toNatClampNeg), .int (xs ((nI i) + 2).toNatClampNeg), .int (xs ((nI i) + 3).toNatClampNeg)]) (rest := []) ⟨hx, hb, hml, hown, htg⟩ (c_X7_best l D E G _ ma M n hn hTM (xs ((nI i) + 1).toNatClampNeg) (xs ((nI i) + 2).toNatClampNeg) (xs ((nI i) + 3).toNatClampNeg) hR) (cwV 3 htg (oh_gV q_1365 q_1366 q_1367 q_73 q_1368) rfl rfl rfl pdVX7_best ⟨Nat.le_of_ble_eq_true rfl, Nat.le_of_ble_eq_true rfl⟩) hK hP hD hG hS hA (va_recv hK (oh_suf_P hP) (ci := 7) (q0 := 0) rfl (oh_wg (by omega) (sM_0 hTM))) rfl hl.1 rfl (Nat.le_of_ble_eq_true rfl) dL_law_1493 ⟨show cN + 0 ≤ 600000 by omega, show sN + 0 ≤ 7302250 by omega⟩ (fun r_5 M_7 H locs hq_6 hP hD hS => ?_)
  have hTM0 := hTM
  obtain ⟨hTM, f_8, hR⟩ := hq_6
  have hkp := kept_fr hkp f_8 (by decide)
  have ht1 : gi (C_3 5) 1 = gi (M_7 0) 7 := by rw [show gi (M_7 0) 7 = gi (M 0) 7 from congrArg vi (f_8.2 7 (by decide))]; exact ht1
  have ht3 : ga (C_3 32) = ga (M_7 7) := Eq.trans ht3 (congrArg ga (f_8.1 7 rfl (by decide))).symm
  have htK := htK.m f_8 (by decide)
  have hAM : absM M_7 A0 := absM_fr hAM hTM0 f_8 (by decide) (by decide) (by decide)
  have hUM : absTM M_7 T0 := absTM_eq hUM (f_8.1 14 rfl (by decide)) (congrArg vi (f_8.2 19 (by decide)))
  have hSM : absHM M_7 S0 := hm_fr hSM (f_8.1 1 rfl (by decide)) (f_8.1 2 rfl (by decide)) (f_8.1 3 rfl (by decide)) (f_8.1 6 rfl (by decide))
  refine W.widen (k := cN) (n := sN) (Nat.le_refl _) (Nat.le_refl _) ?_
  refine lv_pop hx hb dL_law_1496 rfl ?_
  refine lv_goto (tgt := 2045) hx hb dL_law_1497 (by decide) ?_
  exact kk ma C_3 M_7 n (cN) (sN) H locs ls hT hTM hR hkp ht1 ht2 ht3 ⟨_, _, hAX, hAM, hok, hUX, hUM, _, hSX, hSM, hSN⟩ htK (by omega) (by omega) hP hD hS hl
set_option maxHeartbeats 4000000 in
set_option maxRecDepth 100000 in
/-- the law at a call of judge -/
theorem lc_judge {p : Program} {e : Env} {s : State} {m : MethodId} {below : List Frame} {meth : Method} {c : Code} (l : Launch) {b L : Nat} {xs : Nat → Int32} (C0 : lw_At p s m meth c b L xs) (hL : L ≤ 4096) {D : va_G} {E : Nat → ClassId} {G : Nat → Nat} {A : Nat → Prop} (hAe : A = fun q => s.heap.size ≤ q) (hK : va_K D vwCl (oh_ty E) s) (hG : oh_G G A s) {a : Nat → Nat} {i : Nat} (hi : i + 8 ≤ L) {ma : Nat → Nat} {C M : Nat → va_E} {n cN sN : Nat} (hT : TyX a E C) (hTM : TyM ma E M) (hR : RelM M) (hkp : KEPT E n ma M) (ht1 : gi (C 5) 1 = gi (M 0) 7) (ht2 : gi (C 0) 2 = 0 ↔ n = 74) (ht3 : ga (C 32) = ga (M 7)) (htA : ∃ (A0 : LA) (T0 : TP), absX 10 C A0 ∧ absM M A0 ∧ okA A0 ∧ absTX 1 16 C T0 ∧ absTM M T0 ∧ ∃ S0 : HZ, absHX C S0 ∧ absHM M S0 ∧ shN (A0 5 0 1) S0) (htK : TIEK n C M) (hcN : cN ≤ 35 + n) (hsN : sN ≤ 1477 + 16 * n) {H : Heap} {locs : List Loc} (hP : va_P D vwCl (oh_W 35 a C ++ oh_W n ma M) H) (hD : va_D A (oh_W 35 a C ++ oh_W n ma M)) (hS : va_S A s.heap H locs) {ls : Array Slot} (hl : lv_has ls 4 [(3, .int (nI i)), (2, .ref (ma 0)), (1, .ref (a 0)), (0, .ref b)]) (kk : ∀ (ma : Nat → Nat) (C M : Nat → va_E) (n cN sN : Nat) (H : Heap) (locs : List Loc) (ls : Array Slot), TyX a E C → TyM ma E M → RelM M → KEPT E n ma M → gi (C 5) 1 = gi (M 0) 7 → (gi (C 0) 2 = 0 ↔ n = 74) → ga (C 32) = ga (M 7) → (∃ (A0 : LA) (T0 : TP), absX 10 C A0 ∧ absM M A0 ∧ okA A0 ∧ absTX 1 16 C T0 ∧ absTM M T0 ∧ ∃ S0 : HZ, absHX C S0 ∧ absHM M S0 ∧ shN (A0 5 0 1) S0) → TIEK n C M → cN ≤ 35 + n → sN ≤ 1477 + 16 * n → va_P D vwCl (oh_W 35 a C ++ oh_W n ma M) H → va_D A (oh_W 35 a C ++ oh_W n ma M) → va_S A s.heap H locs → lv_has ls 4 [(3, .int (nI i)), (2, .ref (ma 0)), (1, .ref (a 0)), (0, .ref b)] → W p l e room_1 s m #[Value.ref b] below meth c H locs cN sN (lw_Z below #[Value.ref b] s) (F0 m 2045 ls [])) : W p l e room_1 s m #[Value.ref b] below meth c H locs cN sN (lw_Z below #[Value.ref b] s) (F0 m 1500 ls []) := by
  obtain ⟨hx, hb, hr, hml, hown, hts, hX, hbl, hlocks, hgv⟩ := id C0
  have hown : s.vm.findClass RL = some m.cls := hown
  have htg : ∀ w ∈ oh_t, w.before _ s = true := fun w h => hts w (List.mem_filter.mp h).1
  have hA : ∀ q, s.heap.size ≤ q → A q := fun q h => by rw [hAe]; exact h
  have hbA : ¬ A b := by rw [hAe]; exact Nat.not_le.mpr hbl
  have hn := hkp.le.1
  have hn8 := hkp.le.2
  have ht10 := ht1
  have ht20 := ht2
  have ht30 := ht3
  obtain ⟨A0, T0, hAX, hAM, hok, hUX, hUM, S0, hSX, hSM, hSN⟩ := htA
  have hAX0 := hAX
  have hAM0 := hAM
  have htK0 := htK
  have hSX0 := hSX
  have hSM0 := hSM
  have hSN0 := hSN
  have hUX0 := hUX
  have hok0 := hok
  refine lv_aload_n hx hb dL_law_1500 rfl (lv_at hl 2 rfl) ?_
  refine lv_aload_n hx hb dL_law_1501 rfl (lv_at hl 3 rfl) ?_
  refine lv_iload_n hx hb dL_law_1502 rfl (lv_at hl 0 rfl) ?_
  refine lv_iconst (v := 1) hx hb dL_law_1503 (by decide) ?_
  refine lv_iadd hx hb dL_law_1504 ?_
  refine va_sld hx hb hX hbl hbA hS (lw_ix hi hL (rg_c (v := 1) (lo := 1) (hi := 1) (by decide)) (by decide)) dL_law_1505 ?_
  refine lv_aload_n hx hb dL_law_1506 rfl (lv_at hl 3 rfl) ?_
  refine lv_iload_n hx hb dL_law_1507 rfl (lv_at hl 0 rfl) ?_
  refine lv_iconst (v := 2) hx hb dL_law_1508 (by decide) ?_
  refine lv_iadd hx hb dL_law_1509 ?_
  refine va_sld hx hb hX hbl hbA hS (lw_ix hi hL (rg_c (v := 2) (lo := 2) (hi := 2) (by decide)) (by decide)) dL_law_1510 ?_
  refine lv_aload_n hx hb dL_law_1511 rfl (lv_at hl 3 rfl) ?_
  refine lv_iload_n hx hb dL_law_1512 rfl (lv_at hl 0 rfl) ?_
  refine lv_iconst (v := 3) hx hb dL_law_1513 (by decide) ?_
  refine lv_iadd hx hb dL_law_1514 ?_
  refine va_sld hx hb hX hbl hbA hS (lw_ix hi hL (rg_c (v := 3) (lo := 3) (hi := 3) (by decide)) (by decide)) dL_law_1515 ?_
  refine lv_aload_n hx hb dL_law_1516 rfl (lv_at hl 3 rfl) ?_
  refine lv_iload_n hx hb dL_law_1517 rfl (lv_at hl 0 rfl) ?_
  refine lv_iconst (v := 4) hx hb dL_law_1518 (by decide) ?_
  refine lv_iadd hx hb dL_law_1519 ?_
  refine va_sld hx hb hX hbl hbA hS (lw_ix hi hL (rg_c (v := 4) (lo := 4) (hi := 4) (by decide)) (by decide)) dL_law_1520 ?_
  refine lv_aload_n hx hb dL_law_1521 rfl (lv_at hl 3 rfl) ?_
  refine lv_iload_n hx hb dL_law_1522 rfl (lv_at hl 0 rfl) ?_
  refine lv_iconst (v := 5) hx hb dL_law_1523 (by decide) ?_
  refine lv_iadd hx hb dL_law_1524 ?_
  refine va_sld hx hb hX hbl hbA hS (lw_ix hi hL (rg_c (v := 5) (lo := 5) (hi := 5) (by decide)) (by decide)) dL_law_1525 ?_
  refine lw_cX (As := [.int (xs ((nI i) + 1).toNatClampNeg), .int (xs ((nI i) + 2).toNatClampNeg), .int (xs ((nI i) + 3).toNatClampNeg), .int (xs ((nI i) + 4).toNatClampNeg), .int (xs ((nI i) + 5).toNatClampNeg)]) (rest := []) ⟨hx, hb, hml, hown, htg⟩ (c_X6_judge l D E G _ a C hT (xs ((nI i) + 1).toNatClampNeg) (xs ((nI i) + 2).toNatClampNeg) (xs ((nI i) + 3).toNatClampNeg) (xs ((nI i) + 4).toNatClampNeg) (xs ((nI i) + 5).toNatClampNeg)) (cwV 5 htg (oh_gV q_826 q_827 q_828 q_66 q_829) rfl rfl rfl pdVX6_judge ⟨Nat.le_of_ble_eq_true rfl, Nat.le_of_ble_eq_true rfl⟩) hK hP hD hG hS hA (va_recv hK (oh_pre_P hP) (ci := 6) (q0 := 0) rfl (oh_wg (by decide) (sX_0 hT))) rfl hl.1 rfl (Nat.le_of_ble_eq_true rfl) dL_law_1526 ⟨show cN + 0 ≤ 600000 by omega, show sN + 0 ≤ 7302250 by omega⟩ (fun r_1 C_3 H locs hq_2 hP hD hS => ?_)
  obtain ⟨hT, f_4, hq_2⟩ := hq_2
  have ht1 : gi (C_3 5) 1 = gi (M 0) 7 := by rw [f_4.1 5 rfl (by decide)]; exact ht1
  have ht2 : gi (C_3 0) 2 = 0 ↔ n = 74 := by rw [show gi (C_3 0) 2 = gi (C 0) 2 from congrArg vi (f_4.2 2 (by decide))]; exact ht2
  have ht3 : ga (C_3 32) = ga (M 7) := Eq.trans (congrArg ga (f_4.1 32 rfl (by decide))) ht3
  have htK := htK.x (fr_all f_4 17 23 (by decide)) (f_4.1 2 rfl (by decide))
  have hAX : absX 10 C_3 A0 := absX_eq hAX (fun k k1 k2 => fr_all f_4 10 15 (by decide) k k1 (by omega))
  have hUX : absTX 1 16 C_3 T0 := absTX_eq hUX (congrArg (fun z => gi z 7) (f_4.1 1 rfl (by decide))) (f_4.1 16 rfl (by decide))
  have hSX : absHX C_3 S0 := hx_fr hSX (f_4.1 29 rfl (by decide)) (f_4.1 30 rfl (by decide))
  refine W.widen (k := cN) (n := sN) (Nat.le_refl _) (Nat.le_refl _) ?_
  refine lv_pop hx hb dL_law_1529 rfl ?_
  refine lv_aload_n hx hb dL_law_1530 rfl (lv_at hl 1 rfl) ?_
  refine lv_aload_n hx hb dL_law_1531 rfl (lv_at hl 3 rfl) ?_
  refine lv_iload_n hx hb dL_law_1532 rfl (lv_at hl 0 rfl) ?_
  refine lv_iconst (v := 1) hx hb dL_law_1533 (by decide) ?_
  refine lv_iadd hx hb dL_law_1534 ?_
  refine va_sld hx hb hX hbl hbA hS (lw_ix hi hL (rg_c (v := 1) (lo := 1) (hi := 1) (by decide)) (by decide)) dL_law_1535 ?_
  refine lv_aload_n hx hb dL_law_1536 rfl (lv_at hl 3 rfl) ?_
  refine lv_iload_n hx hb dL_law_1537 rfl (lv_at hl 0 rfl) ?_
  refine lv_iconst (v := 2) hx hb dL_law_1538 (by decide) ?_
  refine lv_iadd hx hb dL_law_1539 ?_
  refine va_sld hx hb hX hbl hbA hS (lw_ix hi hL (rg_c (v := 2) (lo := 2) (hi := 2) (by decide)) (by decide)) dL_law_1540 ?_
  refine lv_aload_n hx hb dL_law_1541 rfl (lv_at hl 3 rfl) ?_
  refine lv_iload_n hx hb dL_law_1542 rfl (lv_at hl 0 rfl) ?_
  refine lv_iconst (v := 3) hx hb dL_law_1543 (by decide) ?_
  refine lv_iadd hx hb dL_law_1544 ?_
  refine va_sld hx hb hX hbl hbA hS (lw_ix hi hL (rg_c (v := 3) (lo := 3) (hi := 3) (by decide)) (by decide)) dL_law_1545 ?_
  refine lv_aload_n hx hb dL_law_1546 rfl (lv_at hl 3 rfl) ?_
  refine lv_iload_n hx hb dL_law_1547 rfl (lv_at hl 0 rfl) ?_
  refine lv_iconst (v := 4) hx hb dL_law_1548 (by decide) ?_
  refine lv_iadd hx hb dL_law_1549 ?_
  refine va_sld hx hb hX hbl hbA hS (lw_ix hi hL (rg_c (v := 4) (lo := 4) (hi := 4) (by decide)) (by decide)) dL_law_1550 ?_
  refine lv_aload_n hx hb dL_law_1551 rfl (lv_at hl 3 rfl) ?_
  refine lv_iload_n hx hb dL_law_1552 rfl (lv_at hl 0 rfl) ?_
  refine lv_iconst (v := 5) hx hb dL_law_1553 (by decide) ?_
  refine lv_iadd hx hb dL_law_1554 ?_
  refine va_sld hx hb hX hbl hbA hS (lw_ix hi hL (rg_c (v := 5) (lo := 5) (hi := 5) (by decide)) (by decide)) dL_law_1555 ?_
  refine lw_cM (As := [.int (xs ((nI i) + 1).toNatClampNeg), .int (xs ((nI i) + 2).toNatClampNeg), .int (xs ((nI i) + 3).toNatClampNeg), .int (xs ((nI i) + 4).toNatClampNeg), .int (xs ((nI i) + 5).toNatClampNeg)]) (rest := []) ⟨hx, hb, hml, hown, htg⟩ (c_X7_judge l D E G _ ma M n hn hTM (xs ((nI i) + 1).toNatClampNeg) (xs ((nI i) + 2).toNatClampNeg) (xs ((nI i) + 3).toNatClampNeg) (xs ((nI i) + 4).toNatClampNeg) (xs ((nI i) + 5).toNatClampNeg) hR) (cwV 5 htg (oh_gV q_1369 q_1370 q_1371 q_73 q_1372) rfl rfl rfl pdVX7_judge ⟨Nat.le_of_ble_eq_true rfl, Nat.le_of_ble_eq_true rfl⟩) hK hP hD hG hS hA (va_recv hK (oh_suf_P hP) (ci := 7) (q0 := 0) rfl (oh_wg (by omega) (sM_0 hTM))) rfl hl.1 rfl (Nat.le_of_ble_eq_true rfl) dL_law_1556 ⟨show cN + 0 ≤ 600000 by omega, show sN + 0 ≤ 7302250 by omega⟩ (fun r_5 M_7 H locs hq_6 hP hD hS => ?_)
  have hTM0 := hTM
  obtain ⟨hTM, f_8, hR⟩ := hq_6
  have hkp := kept_fr hkp f_8 (by decide)
  have ht1 : gi (C_3 5) 1 = gi (M_7 0) 7 := by rw [show gi (M_7 0) 7 = gi (M 0) 7 from congrArg vi (f_8.2 7 (by decide))]; exact ht1
  have ht3 : ga (C_3 32) = ga (M_7 7) := Eq.trans ht3 (congrArg ga (f_8.1 7 rfl (by decide))).symm
  have htK := htK.m f_8 (by decide)
  have hAM : absM M_7 A0 := absM_fr hAM hTM0 f_8 (by decide) (by decide) (by decide)
  have hUM : absTM M_7 T0 := absTM_eq hUM (f_8.1 14 rfl (by decide)) (congrArg vi (f_8.2 19 (by decide)))
  have hSM : absHM M_7 S0 := hm_fr hSM (f_8.1 1 rfl (by decide)) (f_8.1 2 rfl (by decide)) (f_8.1 3 rfl (by decide)) (f_8.1 6 rfl (by decide))
  refine W.widen (k := cN) (n := sN) (Nat.le_refl _) (Nat.le_refl _) ?_
  refine lv_pop hx hb dL_law_1559 rfl ?_
  refine lv_goto (tgt := 2045) hx hb dL_law_1560 (by decide) ?_
  exact kk ma C_3 M_7 n (cN) (sN) H locs ls hT hTM hR hkp ht1 ht2 ht3 ⟨_, _, hAX, hAM, hok, hUX, hUM, _, hSX, hSM, hSN⟩ htK (by omega) (by omega) hP hD hS hl

set_option maxHeartbeats 4000000 in
set_option maxRecDepth 100000 in
/-- the law at a call of told -/
theorem lc_told {p : Program} {e : Env} {s : State} {m : MethodId} {below : List Frame} {meth : Method} {c : Code} (l : Launch) {b L : Nat} {xs : Nat → Int32} (C0 : lw_At p s m meth c b L xs) (hL : L ≤ 4096) {D : va_G} {E : Nat → ClassId} {G : Nat → Nat} {A : Nat → Prop} (hAe : A = fun q => s.heap.size ≤ q) (hK : va_K D vwCl (oh_ty E) s) (hG : oh_G G A s) {a : Nat → Nat} {i : Nat} (hi : i + 8 ≤ L) {ma : Nat → Nat} {C M : Nat → va_E} {n cN sN : Nat} (hT : TyX a E C) (hTM : TyM ma E M) (hR : RelM M) (hkp : KEPT E n ma M) (ht1 : gi (C 5) 1 = gi (M 0) 7) (ht2 : gi (C 0) 2 = 0 ↔ n = 74) (ht3 : ga (C 32) = ga (M 7)) (htA : ∃ (A0 : LA) (T0 : TP), absX 10 C A0 ∧ absM M A0 ∧ okA A0 ∧ absTX 1 16 C T0 ∧ absTM M T0 ∧ ∃ S0 : HZ, absHX C S0 ∧ absHM M S0 ∧ shN (A0 5 0 1) S0) (htK : TIEK n C M) (hcN : cN ≤ 35 + n) (hsN : sN ≤ 1477 + 16 * n) {H : Heap} {locs : List Loc} (hP : va_P D vwCl (oh_W 35 a C ++ oh_W n ma M) H) (hD : va_D A (oh_W 35 a C ++ oh_W n ma M)) (hS : va_S A s.heap H locs) {ls : Array Slot} (hl : lv_has ls 4 [(3, .int (nI i)), (2, .ref (ma 0)), (1, .ref (a 0)), (0, .ref b)]) (kk : ∀ (ma : Nat → Nat) (C M : Nat → va_E) (n cN sN : Nat) (H : Heap) (locs : List Loc) (ls : Array Slot), TyX a E C → TyM ma E M → RelM M → KEPT E n ma M → gi (C 5) 1 = gi (M 0) 7 → (gi (C 0) 2 = 0 ↔ n = 74) → ga (C 32) = ga (M 7) → (∃ (A0 : LA) (T0 : TP), absX 10 C A0 ∧ absM M A0 ∧ okA A0 ∧ absTX 1 16 C T0 ∧ absTM M T0 ∧ ∃ S0 : HZ, absHX C S0 ∧ absHM M S0 ∧ shN (A0 5 0 1) S0) → TIEK n C M → cN ≤ 35 + n → sN ≤ 1477 + 16 * n → va_P D vwCl (oh_W 35 a C ++ oh_W n ma M) H → va_D A (oh_W 35 a C ++ oh_W n ma M) → va_S A s.heap H locs → lv_has ls 4 [(3, .int (nI i)), (2, .ref (ma 0)), (1, .ref (a 0)), (0, .ref b)] → W p l e room_1 s m #[Value.ref b] below meth c H locs cN sN (lw_Z below #[Value.ref b] s) (F0 m 2045 ls [])) : W p l e room_1 s m #[Value.ref b] below meth c H locs cN sN (lw_Z below #[Value.ref b] s) (F0 m 1563 ls []) := by
  obtain ⟨hx, hb, hr, hml, hown, hts, hX, hbl, hlocks, hgv⟩ := id C0
  have hown : s.vm.findClass RL = some m.cls := hown
  have htg : ∀ w ∈ oh_t, w.before _ s = true := fun w h => hts w (List.mem_filter.mp h).1
  have hA : ∀ q, s.heap.size ≤ q → A q := fun q h => by rw [hAe]; exact h
  have hbA : ¬ A b := by rw [hAe]; exact Nat.not_le.mpr hbl
  have hn := hkp.le.1
  have hn8 := hkp.le.2
  have ht10 := ht1
  have ht20 := ht2
  have ht30 := ht3
  obtain ⟨A0, T0, hAX, hAM, hok, hUX, hUM, S0, hSX, hSM, hSN⟩ := htA
  have hAX0 := hAX
  have hAM0 := hAM
  have htK0 := htK
  have hSX0 := hSX
  have hSM0 := hSM
  have hSN0 := hSN
  have hUX0 := hUX
  have hok0 := hok
  refine lv_aload_n hx hb dL_law_1563 rfl (lv_at hl 2 rfl) ?_
  refine lv_aload_n hx hb dL_law_1564 rfl (lv_at hl 3 rfl) ?_
  refine lv_iload_n hx hb dL_law_1565 rfl (lv_at hl 0 rfl) ?_
  refine lv_iconst (v := 1) hx hb dL_law_1566 (by decide) ?_
  refine lv_iadd hx hb dL_law_1567 ?_
  refine va_sld hx hb hX hbl hbA hS (lw_ix hi hL (rg_c (v := 1) (lo := 1) (hi := 1) (by decide)) (by decide)) dL_law_1568 ?_
  refine lv_aload_n hx hb dL_law_1569 rfl (lv_at hl 3 rfl) ?_
  refine lv_iload_n hx hb dL_law_1570 rfl (lv_at hl 0 rfl) ?_
  refine lv_iconst (v := 2) hx hb dL_law_1571 (by decide) ?_
  refine lv_iadd hx hb dL_law_1572 ?_
  refine va_sld hx hb hX hbl hbA hS (lw_ix hi hL (rg_c (v := 2) (lo := 2) (hi := 2) (by decide)) (by decide)) dL_law_1573 ?_
  refine lv_aload_n hx hb dL_law_1574 rfl (lv_at hl 3 rfl) ?_
  refine lv_iload_n hx hb dL_law_1575 rfl (lv_at hl 0 rfl) ?_
  refine lv_iconst (v := 3) hx hb dL_law_1576 (by decide) ?_
  refine lv_iadd hx hb dL_law_1577 ?_
  refine va_sld hx hb hX hbl hbA hS (lw_ix hi hL (rg_c (v := 3) (lo := 3) (hi := 3) (by decide)) (by decide)) dL_law_1578 ?_
  refine lv_aload_n hx hb dL_law_1579 rfl (lv_at hl 3 rfl) ?_
  refine lv_iload_n hx hb dL_law_1580 rfl (lv_at hl 0 rfl) ?_
  refine lv_iconst (v := 4) hx hb dL_law_1581 (by decide) ?_
  refine lv_iadd hx hb dL_law_1582 ?_
  refine va_sld hx hb hX hbl hbA hS (lw_ix hi hL (rg_c (v := 4) (lo := 4) (hi := 4) (by decide)) (by decide)) dL_law_1583 ?_
  refine lv_aload_n hx hb dL_law_1584 rfl (lv_at hl 3 rfl) ?_
  refine lv_iload_n hx hb dL_law_1585 rfl (lv_at hl 0 rfl) ?_
  refine lv_iconst (v := 5) hx hb dL_law_1586 (by decide) ?_
  refine lv_iadd hx hb dL_law_1587 ?_
  refine va_sld hx hb hX hbl hbA hS (lw_ix hi hL (rg_c (v := 5) (lo := 5) (hi := 5) (by decide)) (by decide)) dL_law_1588 ?_
  refine lv_aload_n hx hb dL_law_1589 rfl (lv_at hl 3 rfl) ?_
  refine lv_iload_n hx hb dL_law_1590 rfl (lv_at hl 0 rfl) ?_
  refine lv_bipush (v := 6) hx hb dL_law_1591 (by decide) ?_
  refine lv_iadd hx hb dL_law_1593 ?_
  refine va_sld hx hb hX hbl hbA hS (lw_ix hi hL (rg_c (v := 6) (lo := 6) (hi := 6) (by decide)) (by decide)) dL_law_1594 ?_
  refine lw_cX (As := [.int (xs ((nI i) + 1).toNatClampNeg), .int (xs ((nI i) + 2).toNatClampNeg), .int (xs ((nI i) + 3).toNatClampNeg), .int (xs ((nI i) + 4).toNatClampNeg), .int (xs ((nI i) + 5).toNatClampNeg), .int (xs ((nI i) + 6).toNatClampNeg)]) (rest := []) ⟨hx, hb, hml, hown, htg⟩ (c_X6_told l D E G _ a C hT (xs ((nI i) + 1).toNatClampNeg) (xs ((nI i) + 2).toNatClampNeg) (xs ((nI i) + 3).toNatClampNeg) (xs ((nI i) + 4).toNatClampNeg) (xs ((nI i) + 5).toNatClampNeg) (xs ((nI i) + 6).toNatClampNeg)) (cwV 6 htg (oh_gV q_850 q_851 q_852 q_66 q_853) rfl rfl rfl pdVX6_told ⟨Nat.le_of_ble_eq_true rfl, Nat.le_of_ble_eq_true rfl⟩) hK hP hD hG hS hA (va_recv hK (oh_pre_P hP) (ci := 6) (q0 := 0) rfl (oh_wg (by decide) (sX_0 hT))) rfl hl.1 rfl (Nat.le_of_ble_eq_true rfl) dL_law_1595 ⟨show cN + 0 ≤ 600000 by omega, show sN + 0 ≤ 7302250 by omega⟩ (fun r_1 C_3 H locs hq_2 hP hD hS => ?_)
  obtain ⟨hT, f_4, hq_2⟩ := hq_2
  have ht1 : gi (C_3 5) 1 = gi (M 0) 7 := by rw [f_4.1 5 rfl (by decide)]; exact ht1
  have ht2 : gi (C_3 0) 2 = 0 ↔ n = 74 := by rw [show gi (C_3 0) 2 = gi (C 0) 2 from congrArg vi (f_4.2 2 (by decide))]; exact ht2
  have ht3 : ga (C_3 32) = ga (M 7) := Eq.trans (congrArg ga (f_4.1 32 rfl (by decide))) ht3
  have htK := htK.x (fr_all f_4 17 23 (by decide)) (f_4.1 2 rfl (by decide))
  have hAX : absX 10 C_3 A0 := absX_eq hAX (fun k k1 k2 => fr_all f_4 10 15 (by decide) k k1 (by omega))
  have hUX : absTX 1 16 C_3 T0 := absTX_eq hUX (congrArg (fun z => gi z 7) (f_4.1 1 rfl (by decide))) (f_4.1 16 rfl (by decide))
  have hSX : absHX C_3 S0 := hx_fr hSX (f_4.1 29 rfl (by decide)) (f_4.1 30 rfl (by decide))
  refine W.widen (k := cN) (n := sN) (Nat.le_refl _) (Nat.le_refl _) ?_
  refine lv_pop hx hb dL_law_1598 rfl ?_
  refine lv_aload_n hx hb dL_law_1599 rfl (lv_at hl 1 rfl) ?_
  refine lv_aload_n hx hb dL_law_1600 rfl (lv_at hl 3 rfl) ?_
  refine lv_iload_n hx hb dL_law_1601 rfl (lv_at hl 0 rfl) ?_
  refine lv_iconst (v := 1) hx hb dL_law_1602 (by decide) ?_
  refine lv_iadd hx hb dL_law_1603 ?_
  refine va_sld hx hb hX hbl hbA hS (lw_ix hi hL (rg_c (v := 1) (lo := 1) (hi := 1) (by decide)) (by decide)) dL_law_1604 ?_
  refine lv_aload_n hx hb dL_law_1605 rfl (lv_at hl 3 rfl) ?_
  refine lv_iload_n hx hb dL_law_1606 rfl (lv_at hl 0 rfl) ?_
  refine lv_iconst (v := 2) hx hb dL_law_1607 (by decide) ?_
  refine lv_iadd hx hb dL_law_1608 ?_
  refine va_sld hx hb hX hbl hbA hS (lw_ix hi hL (rg_c (v := 2) (lo := 2) (hi := 2) (by decide)) (by decide)) dL_law_1609 ?_
  refine lv_aload_n hx hb dL_law_1610 rfl (lv_at hl 3 rfl) ?_
  refine lv_iload_n hx hb dL_law_1611 rfl (lv_at hl 0 rfl) ?_
  refine lv_iconst (v := 3) hx hb dL_law_1612 (by decide) ?_
  refine lv_iadd hx hb dL_law_1613 ?_
  refine va_sld hx hb hX hbl hbA hS (lw_ix hi hL (rg_c (v := 3) (lo := 3) (hi := 3) (by decide)) (by decide)) dL_law_1614 ?_
  refine lv_aload_n hx hb dL_law_1615 rfl (lv_at hl 3 rfl) ?_
  refine lv_iload_n hx hb dL_law_1616 rfl (lv_at hl 0 rfl) ?_
  refine lv_iconst (v := 4) hx hb dL_law_1617 (by decide) ?_
  refine lv_iadd hx hb dL_law_1618 ?_
  refine va_sld hx hb hX hbl hbA hS (lw_ix hi hL (rg_c (v := 4) (lo := 4) (hi := 4) (by decide)) (by decide)) dL_law_1619 ?_
  refine lv_aload_n hx hb dL_law_1620 rfl (lv_at hl 3 rfl) ?_
  refine lv_iload_n hx hb dL_law_1621 rfl (lv_at hl 0 rfl) ?_
  refine lv_iconst (v := 5) hx hb dL_law_1622 (by decide) ?_
  refine lv_iadd hx hb dL_law_1623 ?_
  refine va_sld hx hb hX hbl hbA hS (lw_ix hi hL (rg_c (v := 5) (lo := 5) (hi := 5) (by decide)) (by decide)) dL_law_1624 ?_
  refine lv_aload_n hx hb dL_law_1625 rfl (lv_at hl 3 rfl) ?_
  refine lv_iload_n hx hb dL_law_1626 rfl (lv_at hl 0 rfl) ?_
  refine lv_bipush (v := 6) hx hb dL_law_1627 (by decide) ?_
  refine lv_iadd hx hb dL_law_1629 ?_
  refine va_sld hx hb hX hbl hbA hS (lw_ix hi hL (rg_c (v := 6) (lo := 6) (hi := 6) (by decide)) (by decide)) dL_law_1630 ?_
  refine lw_cM (As := [.int (xs ((nI i) + 1).toNatClampNeg), .int (xs ((nI i) + 2).toNatClampNeg), .int (xs ((nI i) + 3).toNatClampNeg), .int (xs ((nI i) + 4).toNatClampNeg), .int (xs ((nI i) + 5).toNatClampNeg), .int (xs ((nI i) + 6).toNatClampNeg)]) (rest := []) ⟨hx, hb, hml, hown, htg⟩ (c_X7_told_ l D E G _ ma M n hn hTM (xs ((nI i) + 1).toNatClampNeg) (xs ((nI i) + 2).toNatClampNeg) (xs ((nI i) + 3).toNatClampNeg) (xs ((nI i) + 4).toNatClampNeg) (xs ((nI i) + 5).toNatClampNeg) (xs ((nI i) + 6).toNatClampNeg) hR) (cwV 6 htg (oh_gV q_1381 q_1382 q_1383 q_73 q_1384) rfl rfl rfl pdVX7_told_ ⟨Nat.le_of_ble_eq_true rfl, Nat.le_of_ble_eq_true rfl⟩) hK hP hD hG hS hA (va_recv hK (oh_suf_P hP) (ci := 7) (q0 := 0) rfl (oh_wg (by omega) (sM_0 hTM))) rfl hl.1 rfl (Nat.le_of_ble_eq_true rfl) dL_law_1631 ⟨show cN + 0 ≤ 600000 by omega, show sN + 0 ≤ 7302250 by omega⟩ (fun r_5 M_7 H locs hq_6 hP hD hS => ?_)
  have hTM0 := hTM
  obtain ⟨hTM, f_8, hR⟩ := hq_6
  have hkp := kept_fr hkp f_8 (by decide)
  have ht1 : gi (C_3 5) 1 = gi (M_7 0) 7 := by rw [show gi (M_7 0) 7 = gi (M 0) 7 from congrArg vi (f_8.2 7 (by decide))]; exact ht1
  have ht3 : ga (C_3 32) = ga (M_7 7) := Eq.trans ht3 (congrArg ga (f_8.1 7 rfl (by decide))).symm
  have htK := htK.m f_8 (by decide)
  have hAM : absM M_7 A0 := absM_fr hAM hTM0 f_8 (by decide) (by decide) (by decide)
  have hUM : absTM M_7 T0 := absTM_eq hUM (f_8.1 14 rfl (by decide)) (congrArg vi (f_8.2 19 (by decide)))
  have hSM : absHM M_7 S0 := hm_fr hSM (f_8.1 1 rfl (by decide)) (f_8.1 2 rfl (by decide)) (f_8.1 3 rfl (by decide)) (f_8.1 6 rfl (by decide))
  refine W.widen (k := cN) (n := sN) (Nat.le_refl _) (Nat.le_refl _) ?_
  refine lv_pop hx hb dL_law_1634 rfl ?_
  refine lv_goto (tgt := 2045) hx hb dL_law_1635 (by decide) ?_
  exact kk ma C_3 M_7 n (cN) (sN) H locs ls hT hTM hR hkp ht1 ht2 ht3 ⟨_, _, hAX, hAM, hok, hUX, hUM, _, hSX, hSM, hSN⟩ htK (by omega) (by omega) hP hD hS hl

set_option maxHeartbeats 4000000 in
set_option maxRecDepth 100000 in
/-- the law at a call of reach -/
theorem lc_reach {p : Program} {e : Env} {s : State} {m : MethodId} {below : List Frame} {meth : Method} {c : Code} (l : Launch) {b L : Nat} {xs : Nat → Int32} (C0 : lw_At p s m meth c b L xs) (hL : L ≤ 4096) {D : va_G} {E : Nat → ClassId} {G : Nat → Nat} {A : Nat → Prop} (hAe : A = fun q => s.heap.size ≤ q) (hK : va_K D vwCl (oh_ty E) s) (hG : oh_G G A s) {a : Nat → Nat} {i : Nat} (hi : i + 8 ≤ L) {ma : Nat → Nat} {C M : Nat → va_E} {n cN sN : Nat} (hT : TyX a E C) (hTM : TyM ma E M) (hR : RelM M) (hkp : KEPT E n ma M) (ht1 : gi (C 5) 1 = gi (M 0) 7) (ht2 : gi (C 0) 2 = 0 ↔ n = 74) (ht3 : ga (C 32) = ga (M 7)) (htA : ∃ (A0 : LA) (T0 : TP), absX 10 C A0 ∧ absM M A0 ∧ okA A0 ∧ absTX 1 16 C T0 ∧ absTM M T0 ∧ ∃ S0 : HZ, absHX C S0 ∧ absHM M S0 ∧ shN (A0 5 0 1) S0) (htK : TIEK n C M) (hcN : cN ≤ 35 + n) (hsN : sN ≤ 1477 + 16 * n) {H : Heap} {locs : List Loc} (hP : va_P D vwCl (oh_W 35 a C ++ oh_W n ma M) H) (hD : va_D A (oh_W 35 a C ++ oh_W n ma M)) (hS : va_S A s.heap H locs) {ls : Array Slot} (hl : lv_has ls 4 [(3, .int (nI i)), (2, .ref (ma 0)), (1, .ref (a 0)), (0, .ref b)]) (kk : ∀ (ma : Nat → Nat) (C M : Nat → va_E) (n cN sN : Nat) (H : Heap) (locs : List Loc) (ls : Array Slot), TyX a E C → TyM ma E M → RelM M → KEPT E n ma M → gi (C 5) 1 = gi (M 0) 7 → (gi (C 0) 2 = 0 ↔ n = 74) → ga (C 32) = ga (M 7) → (∃ (A0 : LA) (T0 : TP), absX 10 C A0 ∧ absM M A0 ∧ okA A0 ∧ absTX 1 16 C T0 ∧ absTM M T0 ∧ ∃ S0 : HZ, absHX C S0 ∧ absHM M S0 ∧ shN (A0 5 0 1) S0) → TIEK n C M → cN ≤ 35 + n → sN ≤ 1477 + 16 * n → va_P D vwCl (oh_W 35 a C ++ oh_W n ma M) H → va_D A (oh_W 35 a C ++ oh_W n ma M) → va_S A s.heap H locs → lv_has ls 4 [(3, .int (nI i)), (2, .ref (ma 0)), (1, .ref (a 0)), (0, .ref b)] → W p l e room_1 s m #[Value.ref b] below meth c H locs cN sN (lw_Z below #[Value.ref b] s) (F0 m 2045 ls [])) : W p l e room_1 s m #[Value.ref b] below meth c H locs cN sN (lw_Z below #[Value.ref b] s) (F0 m 1638 ls []) := by
  obtain ⟨hx, hb, hr, hml, hown, hts, hX, hbl, hlocks, hgv⟩ := id C0
  have hown : s.vm.findClass RL = some m.cls := hown
  have htg : ∀ w ∈ oh_t, w.before _ s = true := fun w h => hts w (List.mem_filter.mp h).1
  have hA : ∀ q, s.heap.size ≤ q → A q := fun q h => by rw [hAe]; exact h
  have hbA : ¬ A b := by rw [hAe]; exact Nat.not_le.mpr hbl
  have hn := hkp.le.1
  have hn8 := hkp.le.2
  have ht10 := ht1
  have ht20 := ht2
  have ht30 := ht3
  obtain ⟨A0, T0, hAX, hAM, hok, hUX, hUM, S0, hSX, hSM, hSN⟩ := htA
  have hAX0 := hAX
  have hAM0 := hAM
  have htK0 := htK
  have hSX0 := hSX
  have hSM0 := hSM
  have hSN0 := hSN
  have hUX0 := hUX
  have hok0 := hok
  refine lv_aload_n hx hb dL_law_1638 rfl (lv_at hl 2 rfl) ?_
  refine lv_aload_n hx hb dL_law_1639 rfl (lv_at hl 3 rfl) ?_
  refine lv_iload_n hx hb dL_law_1640 rfl (lv_at hl 0 rfl) ?_
  refine lv_iconst (v := 1) hx hb dL_law_1641 (by decide) ?_
  refine lv_iadd hx hb dL_law_1642 ?_
  refine va_sld hx hb hX hbl hbA hS (lw_ix hi hL (rg_c (v := 1) (lo := 1) (hi := 1) (by decide)) (by decide)) dL_law_1643 ?_
  refine lv_aload_n hx hb dL_law_1644 rfl (lv_at hl 3 rfl) ?_
  refine lv_iload_n hx hb dL_law_1645 rfl (lv_at hl 0 rfl) ?_
  refine lv_iconst (v := 2) hx hb dL_law_1646 (by decide) ?_
  refine lv_iadd hx hb dL_law_1647 ?_
  refine va_sld hx hb hX hbl hbA hS (lw_ix hi hL (rg_c (v := 2) (lo := 2) (hi := 2) (by decide)) (by decide)) dL_law_1648 ?_
  refine lv_aload_n hx hb dL_law_1649 rfl (lv_at hl 3 rfl) ?_
  refine lv_iload_n hx hb dL_law_1650 rfl (lv_at hl 0 rfl) ?_
  refine lv_iconst (v := 3) hx hb dL_law_1651 (by decide) ?_
  refine lv_iadd hx hb dL_law_1652 ?_
  refine va_sld hx hb hX hbl hbA hS (lw_ix hi hL (rg_c (v := 3) (lo := 3) (hi := 3) (by decide)) (by decide)) dL_law_1653 ?_
  refine lw_cX (As := [.int (xs ((nI i) + 1).toNatClampNeg), .int (xs ((nI i) + 2).toNatClampNeg), .int (xs ((nI i) + 3).toNatClampNeg)]) (rest := []) ⟨hx, hb, hml, hown, htg⟩ (e_X6_reach l D E G _ a C hT (xs ((nI i) + 1).toNatClampNeg) (xs ((nI i) + 2).toNatClampNeg) (xs ((nI i) + 3).toNatClampNeg)) (cwV 3 htg (oh_gV q_860 q_861 q_862 q_66 q_863) rfl rfl rfl pdVX6_reach ⟨Nat.le_of_ble_eq_true rfl, Nat.le_of_ble_eq_true rfl⟩) hK hP hD hG hS hA (va_recv hK (oh_pre_P hP) (ci := 6) (q0 := 0) rfl (oh_wg (by decide) (sX_0 hT))) rfl hl.1 rfl (Nat.le_of_ble_eq_true rfl) dL_law_1654 ⟨show cN + 0 ≤ 600000 by omega, show sN + 0 ≤ 7302250 by omega⟩ (fun r_1 C_3 H locs hq_2 hP hD hS => ?_)
  obtain ⟨hT, f_4, hq_2⟩ := hq_2
  have ht1 : gi (C_3 5) 1 = gi (M 0) 7 := by rw [f_4.1 5 rfl (by decide)]; exact ht1
  have ht2 : gi (C_3 0) 2 = 0 ↔ n = 74 := by rw [show gi (C_3 0) 2 = gi (C 0) 2 from congrArg vi (f_4.2 2 (by decide))]; exact ht2
  have ht3 : ga (C_3 32) = ga (M 7) := Eq.trans (congrArg ga (f_4.1 32 rfl (by decide))) ht3
  have htK := htK.x (fr_all f_4 17 23 (by decide)) (f_4.1 2 rfl (by decide))
  have hX_5 := hq_2 A0 hAX0 hok
  have hAX : absX 10 C_3 A0 := absX_eq hAX (fun k k1 k2 => fr_all f_4 10 15 (by decide) k k1 (by omega))
  have hUX : absTX 1 16 C_3 T0 := absTX_eq hUX (congrArg (fun z => gi z 7) (f_4.1 1 rfl (by decide))) (f_4.1 16 rfl (by decide))
  have hSX : absHX C_3 S0 := hx_fr hSX (f_4.1 29 rfl (by decide)) (f_4.1 30 rfl (by decide))
  refine W.widen (k := cN) (n := sN) (Nat.le_refl _) (Nat.le_refl _) ?_
  refine lv_pop hx hb dL_law_1657 rfl ?_
  refine lv_aload_n hx hb dL_law_1658 rfl (lv_at hl 1 rfl) ?_
  refine lv_aload_n hx hb dL_law_1659 rfl (lv_at hl 3 rfl) ?_
  refine lv_iload_n hx hb dL_law_1660 rfl (lv_at hl 0 rfl) ?_
  refine lv_iconst (v := 1) hx hb dL_law_1661 (by decide) ?_
  refine lv_iadd hx hb dL_law_1662 ?_
  refine va_sld hx hb hX hbl hbA hS (lw_ix hi hL (rg_c (v := 1) (lo := 1) (hi := 1) (by decide)) (by decide)) dL_law_1663 ?_
  refine lv_aload_n hx hb dL_law_1664 rfl (lv_at hl 3 rfl) ?_
  refine lv_iload_n hx hb dL_law_1665 rfl (lv_at hl 0 rfl) ?_
  refine lv_iconst (v := 2) hx hb dL_law_1666 (by decide) ?_
  refine lv_iadd hx hb dL_law_1667 ?_
  refine va_sld hx hb hX hbl hbA hS (lw_ix hi hL (rg_c (v := 2) (lo := 2) (hi := 2) (by decide)) (by decide)) dL_law_1668 ?_
  refine lv_aload_n hx hb dL_law_1669 rfl (lv_at hl 3 rfl) ?_
  refine lv_iload_n hx hb dL_law_1670 rfl (lv_at hl 0 rfl) ?_
  refine lv_iconst (v := 3) hx hb dL_law_1671 (by decide) ?_
  refine lv_iadd hx hb dL_law_1672 ?_
  refine va_sld hx hb hX hbl hbA hS (lw_ix hi hL (rg_c (v := 3) (lo := 3) (hi := 3) (by decide)) (by decide)) dL_law_1673 ?_
  refine lw_cM (As := [.int (xs ((nI i) + 1).toNatClampNeg), .int (xs ((nI i) + 2).toNatClampNeg), .int (xs ((nI i) + 3).toNatClampNeg)]) (rest := []) ⟨hx, hb, hml, hown, htg⟩ (e_X7_reach l D E G _ ma M n hn hTM (xs ((nI i) + 1).toNatClampNeg) (xs ((nI i) + 2).toNatClampNeg) (xs ((nI i) + 3).toNatClampNeg) hR) (cwV 3 htg (oh_gV q_1389 q_1390 q_1391 q_73 q_1392) rfl rfl rfl pdVX7_reach ⟨Nat.le_of_ble_eq_true rfl, Nat.le_of_ble_eq_true rfl⟩) hK hP hD hG hS hA (va_recv hK (oh_suf_P hP) (ci := 7) (q0 := 0) rfl (oh_wg (by omega) (sM_0 hTM))) rfl hl.1 rfl (Nat.le_of_ble_eq_true rfl) dL_law_1674 ⟨show cN + 0 ≤ 600000 by omega, show sN + 0 ≤ 7302250 by omega⟩ (fun r_6 M_8 H locs hq_7 hP hD hS => ?_)
  have hTM0 := hTM
  obtain ⟨hTM, f_9, hR, hq_7⟩ := hq_7
  have hkp := kept_fr hkp f_9 (by decide)
  have ht1 : gi (C_3 5) 1 = gi (M_8 0) 7 := by rw [show gi (M_8 0) 7 = gi (M 0) 7 from congrArg vi (f_9.2 7 (by decide))]; exact ht1
  have ht3 : ga (C_3 32) = ga (M_8 7) := Eq.trans ht3 (congrArg ga (f_9.1 7 rfl (by decide))).symm
  have htK := htK.m f_9 (by decide)
  have hM_10 := hq_7 A0 hAM0 hok
  have hAM : absM M_8 A0 := absM_fr hAM hTM0 f_9 (by decide) (by decide) (by decide)
  have hUM : absTM M_8 T0 := absTM_eq hUM (f_9.1 14 rfl (by decide)) (congrArg vi (f_9.2 19 (by decide)))
  have hSM : absHM M_8 S0 := hm_fr hSM (f_9.1 1 rfl (by decide)) (f_9.1 2 rfl (by decide)) (f_9.1 3 rfl (by decide)) (f_9.1 6 rfl (by decide))
  refine W.widen (k := cN) (n := sN) (Nat.le_refl _) (Nat.le_refl _) ?_
  refine lv_pop hx hb dL_law_1677 rfl ?_
  refine lv_goto (tgt := 2045) hx hb dL_law_1678 (by decide) ?_
  exact kk ma C_3 M_8 n (cN) (sN) H locs ls hT hTM hR hkp ht1 ht2 ht3 ⟨_, _, hAX, hAM, hok, hUX, hUM, _, hSX, hSM, hSN⟩ htK (by omega) (by omega) hP hD hS hl

set_option maxHeartbeats 4000000 in
set_option maxRecDepth 100000 in
/-- the law at a call of hang -/
theorem lc_hang {p : Program} {e : Env} {s : State} {m : MethodId} {below : List Frame} {meth : Method} {c : Code} (l : Launch) {b L : Nat} {xs : Nat → Int32} (C0 : lw_At p s m meth c b L xs) (hL : L ≤ 4096) {D : va_G} {E : Nat → ClassId} {G : Nat → Nat} {A : Nat → Prop} (hAe : A = fun q => s.heap.size ≤ q) (hK : va_K D vwCl (oh_ty E) s) (hG : oh_G G A s) {a : Nat → Nat} {i : Nat} (hi : i + 8 ≤ L) {ma : Nat → Nat} {C M : Nat → va_E} {n cN sN : Nat} (hT : TyX a E C) (hTM : TyM ma E M) (hR : RelM M) (hkp : KEPT E n ma M) (ht1 : gi (C 5) 1 = gi (M 0) 7) (ht2 : gi (C 0) 2 = 0 ↔ n = 74) (ht3 : ga (C 32) = ga (M 7)) (htA : ∃ (A0 : LA) (T0 : TP), absX 10 C A0 ∧ absM M A0 ∧ okA A0 ∧ absTX 1 16 C T0 ∧ absTM M T0 ∧ ∃ S0 : HZ, absHX C S0 ∧ absHM M S0 ∧ shN (A0 5 0 1) S0) (htK : TIEK n C M) (hcN : cN ≤ 35 + n) (hsN : sN ≤ 1477 + 16 * n) {H : Heap} {locs : List Loc} (hP : va_P D vwCl (oh_W 35 a C ++ oh_W n ma M) H) (hD : va_D A (oh_W 35 a C ++ oh_W n ma M)) (hS : va_S A s.heap H locs) {ls : Array Slot} (hl : lv_has ls 4 [(3, .int (nI i)), (2, .ref (ma 0)), (1, .ref (a 0)), (0, .ref b)]) (kk : ∀ (ma : Nat → Nat) (C M : Nat → va_E) (n cN sN : Nat) (H : Heap) (locs : List Loc) (ls : Array Slot), TyX a E C → TyM ma E M → RelM M → KEPT E n ma M → gi (C 5) 1 = gi (M 0) 7 → (gi (C 0) 2 = 0 ↔ n = 74) → ga (C 32) = ga (M 7) → (∃ (A0 : LA) (T0 : TP), absX 10 C A0 ∧ absM M A0 ∧ okA A0 ∧ absTX 1 16 C T0 ∧ absTM M T0 ∧ ∃ S0 : HZ, absHX C S0 ∧ absHM M S0 ∧ shN (A0 5 0 1) S0) → TIEK n C M → cN ≤ 35 + n → sN ≤ 1477 + 16 * n → va_P D vwCl (oh_W 35 a C ++ oh_W n ma M) H → va_D A (oh_W 35 a C ++ oh_W n ma M) → va_S A s.heap H locs → lv_has ls 4 [(3, .int (nI i)), (2, .ref (ma 0)), (1, .ref (a 0)), (0, .ref b)] → W p l e room_1 s m #[Value.ref b] below meth c H locs cN sN (lw_Z below #[Value.ref b] s) (F0 m 2045 ls [])) : W p l e room_1 s m #[Value.ref b] below meth c H locs cN sN (lw_Z below #[Value.ref b] s) (F0 m 1681 ls []) := by
  obtain ⟨hx, hb, hr, hml, hown, hts, hX, hbl, hlocks, hgv⟩ := id C0
  have hown : s.vm.findClass RL = some m.cls := hown
  have htg : ∀ w ∈ oh_t, w.before _ s = true := fun w h => hts w (List.mem_filter.mp h).1
  have hA : ∀ q, s.heap.size ≤ q → A q := fun q h => by rw [hAe]; exact h
  have hbA : ¬ A b := by rw [hAe]; exact Nat.not_le.mpr hbl
  have hn := hkp.le.1
  have hn8 := hkp.le.2
  have ht10 := ht1
  have ht20 := ht2
  have ht30 := ht3
  obtain ⟨A0, T0, hAX, hAM, hok, hUX, hUM, S0, hSX, hSM, hSN⟩ := htA
  have hAX0 := hAX
  have hAM0 := hAM
  have htK0 := htK
  have hSX0 := hSX
  have hSM0 := hSM
  have hSN0 := hSN
  have hUX0 := hUX
  have hok0 := hok
  refine lv_aload_n hx hb dL_law_1681 rfl (lv_at hl 2 rfl) ?_
  refine lv_aload_n hx hb dL_law_1682 rfl (lv_at hl 3 rfl) ?_
  refine lv_iload_n hx hb dL_law_1683 rfl (lv_at hl 0 rfl) ?_
  refine lv_iconst (v := 1) hx hb dL_law_1684 (by decide) ?_
  refine lv_iadd hx hb dL_law_1685 ?_
  refine va_sld hx hb hX hbl hbA hS (lw_ix hi hL (rg_c (v := 1) (lo := 1) (hi := 1) (by decide)) (by decide)) dL_law_1686 ?_
  refine lv_aload_n hx hb dL_law_1687 rfl (lv_at hl 3 rfl) ?_
  refine lv_iload_n hx hb dL_law_1688 rfl (lv_at hl 0 rfl) ?_
  refine lv_iconst (v := 2) hx hb dL_law_1689 (by decide) ?_
  refine lv_iadd hx hb dL_law_1690 ?_
  refine va_sld hx hb hX hbl hbA hS (lw_ix hi hL (rg_c (v := 2) (lo := 2) (hi := 2) (by decide)) (by decide)) dL_law_1691 ?_
  refine lv_aload_n hx hb dL_law_1692 rfl (lv_at hl 3 rfl) ?_
  refine lv_iload_n hx hb dL_law_1693 rfl (lv_at hl 0 rfl) ?_
  refine lv_iconst (v := 3) hx hb dL_law_1694 (by decide) ?_
  refine lv_iadd hx hb dL_law_1695 ?_
  refine va_sld hx hb hX hbl hbA hS (lw_ix hi hL (rg_c (v := 3) (lo := 3) (hi := 3) (by decide)) (by decide)) dL_law_1696 ?_
  refine lv_aload_n hx hb dL_law_1697 rfl (lv_at hl 3 rfl) ?_
  refine lv_iload_n hx hb dL_law_1698 rfl (lv_at hl 0 rfl) ?_
  refine lv_iconst (v := 4) hx hb dL_law_1699 (by decide) ?_
  refine lv_iadd hx hb dL_law_1700 ?_
  refine va_sld hx hb hX hbl hbA hS (lw_ix hi hL (rg_c (v := 4) (lo := 4) (hi := 4) (by decide)) (by decide)) dL_law_1701 ?_
  refine lw_cX (As := [.int (xs ((nI i) + 1).toNatClampNeg), .int (xs ((nI i) + 2).toNatClampNeg), .int (xs ((nI i) + 3).toNatClampNeg), .int (xs ((nI i) + 4).toNatClampNeg)]) (rest := []) ⟨hx, hb, hml, hown, htg⟩ (e_X6_hang l D E G _ a C hT (xs ((nI i) + 1).toNatClampNeg) (xs ((nI i) + 2).toNatClampNeg) (xs ((nI i) + 3).toNatClampNeg) (xs ((nI i) + 4).toNatClampNeg)) (cwV 4 htg (oh_gV q_868 q_869 q_870 q_66 q_871) rfl rfl rfl pdVX6_hang ⟨Nat.le_of_ble_eq_true rfl, Nat.le_of_ble_eq_true rfl⟩) hK hP hD hG hS hA (va_recv hK (oh_pre_P hP) (ci := 6) (q0 := 0) rfl (oh_wg (by decide) (sX_0 hT))) rfl hl.1 rfl (Nat.le_of_ble_eq_true rfl) dL_law_1702 ⟨show cN + 0 ≤ 600000 by omega, show sN + 0 ≤ 7302250 by omega⟩ (fun r_1 C_3 H locs hq_2 hP hD hS => ?_)
  obtain ⟨hT, f_4, hq_2⟩ := hq_2
  have ht1 : gi (C_3 5) 1 = gi (M 0) 7 := by rw [f_4.1 5 rfl (by decide)]; exact ht1
  have ht2 : gi (C_3 0) 2 = 0 ↔ n = 74 := by rw [show gi (C_3 0) 2 = gi (C 0) 2 from congrArg vi (f_4.2 2 (by decide))]; exact ht2
  have ht3 : ga (C_3 32) = ga (M 7) := Eq.trans (congrArg ga (f_4.1 32 rfl (by decide))) ht3
  have htK := htK.x (fr_all f_4 17 23 (by decide)) (f_4.1 2 rfl (by decide))
  have hAX : absX 10 C_3 A0 := absX_g1 12 hAX f_4 hq_2 (by decide)
  have hUX : absTX 1 16 C_3 T0 := absTX_eq hUX (congrArg (fun z => gi z 7) (f_4.1 1 rfl (by decide))) (f_4.1 16 rfl (by decide))
  have hSX : absHX C_3 S0 := hx_fr hSX (f_4.1 29 rfl (by decide)) (f_4.1 30 rfl (by decide))
  refine W.widen (k := cN) (n := sN) (Nat.le_refl _) (Nat.le_refl _) ?_
  refine lv_pop hx hb dL_law_1705 rfl ?_
  refine lv_aload_n hx hb dL_law_1706 rfl (lv_at hl 1 rfl) ?_
  refine lv_aload_n hx hb dL_law_1707 rfl (lv_at hl 3 rfl) ?_
  refine lv_iload_n hx hb dL_law_1708 rfl (lv_at hl 0 rfl) ?_
  refine lv_iconst (v := 1) hx hb dL_law_1709 (by decide) ?_
  refine lv_iadd hx hb dL_law_1710 ?_
  refine va_sld hx hb hX hbl hbA hS (lw_ix hi hL (rg_c (v := 1) (lo := 1) (hi := 1) (by decide)) (by decide)) dL_law_1711 ?_
  refine lv_aload_n hx hb dL_law_1712 rfl (lv_at hl 3 rfl) ?_
  refine lv_iload_n hx hb dL_law_1713 rfl (lv_at hl 0 rfl) ?_
  refine lv_iconst (v := 2) hx hb dL_law_1714 (by decide) ?_
  refine lv_iadd hx hb dL_law_1715 ?_
  refine va_sld hx hb hX hbl hbA hS (lw_ix hi hL (rg_c (v := 2) (lo := 2) (hi := 2) (by decide)) (by decide)) dL_law_1716 ?_
  refine lv_aload_n hx hb dL_law_1717 rfl (lv_at hl 3 rfl) ?_
  refine lv_iload_n hx hb dL_law_1718 rfl (lv_at hl 0 rfl) ?_
  refine lv_iconst (v := 3) hx hb dL_law_1719 (by decide) ?_
  refine lv_iadd hx hb dL_law_1720 ?_
  refine va_sld hx hb hX hbl hbA hS (lw_ix hi hL (rg_c (v := 3) (lo := 3) (hi := 3) (by decide)) (by decide)) dL_law_1721 ?_
  refine lv_aload_n hx hb dL_law_1722 rfl (lv_at hl 3 rfl) ?_
  refine lv_iload_n hx hb dL_law_1723 rfl (lv_at hl 0 rfl) ?_
  refine lv_iconst (v := 4) hx hb dL_law_1724 (by decide) ?_
  refine lv_iadd hx hb dL_law_1725 ?_
  refine va_sld hx hb hX hbl hbA hS (lw_ix hi hL (rg_c (v := 4) (lo := 4) (hi := 4) (by decide)) (by decide)) dL_law_1726 ?_
  refine lw_cM (As := [.int (xs ((nI i) + 1).toNatClampNeg), .int (xs ((nI i) + 2).toNatClampNeg), .int (xs ((nI i) + 3).toNatClampNeg), .int (xs ((nI i) + 4).toNatClampNeg)]) (rest := []) ⟨hx, hb, hml, hown, htg⟩ (e_X7_hang l D E G _ ma M n hn hTM (xs ((nI i) + 1).toNatClampNeg) (xs ((nI i) + 2).toNatClampNeg) (xs ((nI i) + 3).toNatClampNeg) (xs ((nI i) + 4).toNatClampNeg) hR) (cwV 4 htg (oh_gV q_1393 q_1394 q_1395 q_73 q_1396) rfl rfl rfl pdVX7_hang ⟨Nat.le_of_ble_eq_true rfl, Nat.le_of_ble_eq_true rfl⟩) hK hP hD hG hS hA (va_recv hK (oh_suf_P hP) (ci := 7) (q0 := 0) rfl (oh_wg (by omega) (sM_0 hTM))) rfl hl.1 rfl (Nat.le_of_ble_eq_true rfl) dL_law_1727 ⟨show cN + 0 ≤ 600000 by omega, show sN + 0 ≤ 7302250 by omega⟩ (fun r_5 M_7 H locs hq_6 hP hD hS => ?_)
  have hTM0 := hTM
  obtain ⟨hTM, f_8, hR, hq_6⟩ := hq_6
  have hkp := kept_fr hkp f_8 (by decide)
  have ht1 : gi (C_3 5) 1 = gi (M_7 0) 7 := by rw [show gi (M_7 0) 7 = gi (M 0) 7 from congrArg vi (f_8.2 7 (by decide))]; exact ht1
  have ht3 : ga (C_3 32) = ga (M_7 7) := Eq.trans ht3 (congrArg ga (f_8.1 7 rfl (by decide))).symm
  have htK := htK.m f_8 (by decide)
  have hAM := hq_6 A0 hAM
  have hUM : absTM M_7 T0 := absTM_eq hUM (f_8.1 14 rfl (by decide)) (congrArg vi (f_8.2 19 (by decide)))
  have hSM : absHM M_7 S0 := hm_fr hSM (f_8.1 1 rfl (by decide)) (f_8.1 2 rfl (by decide)) (f_8.1 3 rfl (by decide)) (f_8.1 6 rfl (by decide))
  refine W.widen (k := cN) (n := sN) (Nat.le_refl _) (Nat.le_refl _) ?_
  refine lv_pop hx hb dL_law_1730 rfl ?_
  refine lv_goto (tgt := 2045) hx hb dL_law_1731 (by decide) ?_
  exact kk ma C_3 M_7 n (cN) (sN) H locs ls hT hTM hR hkp ht1 ht2 ht3 ⟨_, _, hAX, hAM, hok, hUX, hUM, _, hSX, hSM, hSN⟩ htK (by omega) (by omega) hP hD hS hl

set_option maxHeartbeats 4000000 in
set_option maxRecDepth 100000 in
/-- the law at a call of fewest -/
theorem lc_fewest {p : Program} {e : Env} {s : State} {m : MethodId} {below : List Frame} {meth : Method} {c : Code} (l : Launch) {b L : Nat} {xs : Nat → Int32} (C0 : lw_At p s m meth c b L xs) (hL : L ≤ 4096) {D : va_G} {E : Nat → ClassId} {G : Nat → Nat} {A : Nat → Prop} (hAe : A = fun q => s.heap.size ≤ q) (hK : va_K D vwCl (oh_ty E) s) (hG : oh_G G A s) {a : Nat → Nat} {i : Nat} (hi : i + 8 ≤ L) {ma : Nat → Nat} {C M : Nat → va_E} {n cN sN : Nat} (hT : TyX a E C) (hTM : TyM ma E M) (hR : RelM M) (hkp : KEPT E n ma M) (ht1 : gi (C 5) 1 = gi (M 0) 7) (ht2 : gi (C 0) 2 = 0 ↔ n = 74) (ht3 : ga (C 32) = ga (M 7)) (htA : ∃ (A0 : LA) (T0 : TP), absX 10 C A0 ∧ absM M A0 ∧ okA A0 ∧ absTX 1 16 C T0 ∧ absTM M T0 ∧ ∃ S0 : HZ, absHX C S0 ∧ absHM M S0 ∧ shN (A0 5 0 1) S0) (htK : TIEK n C M) (hcN : cN ≤ 35 + n) (hsN : sN ≤ 1477 + 16 * n) {H : Heap} {locs : List Loc} (hP : va_P D vwCl (oh_W 35 a C ++ oh_W n ma M) H) (hD : va_D A (oh_W 35 a C ++ oh_W n ma M)) (hS : va_S A s.heap H locs) {ls : Array Slot} (hl : lv_has ls 4 [(3, .int (nI i)), (2, .ref (ma 0)), (1, .ref (a 0)), (0, .ref b)]) (kk : ∀ (ma : Nat → Nat) (C M : Nat → va_E) (n cN sN : Nat) (H : Heap) (locs : List Loc) (ls : Array Slot), TyX a E C → TyM ma E M → RelM M → KEPT E n ma M → gi (C 5) 1 = gi (M 0) 7 → (gi (C 0) 2 = 0 ↔ n = 74) → ga (C 32) = ga (M 7) → (∃ (A0 : LA) (T0 : TP), absX 10 C A0 ∧ absM M A0 ∧ okA A0 ∧ absTX 1 16 C T0 ∧ absTM M T0 ∧ ∃ S0 : HZ, absHX C S0 ∧ absHM M S0 ∧ shN (A0 5 0 1) S0) → TIEK n C M → cN ≤ 35 + n → sN ≤ 1477 + 16 * n → va_P D vwCl (oh_W 35 a C ++ oh_W n ma M) H → va_D A (oh_W 35 a C ++ oh_W n ma M) → va_S A s.heap H locs → lv_has ls 4 [(3, .int (nI i)), (2, .ref (ma 0)), (1, .ref (a 0)), (0, .ref b)] → W p l e room_1 s m #[Value.ref b] below meth c H locs cN sN (lw_Z below #[Value.ref b] s) (F0 m 2045 ls [])) : W p l e room_1 s m #[Value.ref b] below meth c H locs cN sN (lw_Z below #[Value.ref b] s) (F0 m 1734 ls []) := by
  obtain ⟨hx, hb, hr, hml, hown, hts, hX, hbl, hlocks, hgv⟩ := id C0
  have hown : s.vm.findClass RL = some m.cls := hown
  have htg : ∀ w ∈ oh_t, w.before _ s = true := fun w h => hts w (List.mem_filter.mp h).1
  have hA : ∀ q, s.heap.size ≤ q → A q := fun q h => by rw [hAe]; exact h
  have hbA : ¬ A b := by rw [hAe]; exact Nat.not_le.mpr hbl
  have hn := hkp.le.1
  have hn8 := hkp.le.2
  have ht10 := ht1
  have ht20 := ht2
  have ht30 := ht3
  obtain ⟨A0, T0, hAX, hAM, hok, hUX, hUM, S0, hSX, hSM, hSN⟩ := htA
  have hAX0 := hAX
  have hAM0 := hAM
  have htK0 := htK
  have hSX0 := hSX
  have hSM0 := hSM
  have hSN0 := hSN
  have hUX0 := hUX
  have hok0 := hok
  refine lv_aload_n hx hb dL_law_1734 rfl (lv_at hl 2 rfl) ?_
  refine lv_aload_n hx hb dL_law_1735 rfl (lv_at hl 3 rfl) ?_
  refine lv_iload_n hx hb dL_law_1736 rfl (lv_at hl 0 rfl) ?_
  refine lv_iconst (v := 1) hx hb dL_law_1737 (by decide) ?_
  refine lv_iadd hx hb dL_law_1738 ?_
  refine va_sld hx hb hX hbl hbA hS (lw_ix hi hL (rg_c (v := 1) (lo := 1) (hi := 1) (by decide)) (by decide)) dL_law_1739 ?_
  refine lv_aload_n hx hb dL_law_1740 rfl (lv_at hl 3 rfl) ?_
  refine lv_iload_n hx hb dL_law_1741 rfl (lv_at hl 0 rfl) ?_
  refine lv_iconst (v := 2) hx hb dL_law_1742 (by decide) ?_
  refine lv_iadd hx hb dL_law_1743 ?_
  refine va_sld hx hb hX hbl hbA hS (lw_ix hi hL (rg_c (v := 2) (lo := 2) (hi := 2) (by decide)) (by decide)) dL_law_1744 ?_
  refine lv_aload_n hx hb dL_law_1745 rfl (lv_at hl 3 rfl) ?_
  refine lv_iload_n hx hb dL_law_1746 rfl (lv_at hl 0 rfl) ?_
  refine lv_iconst (v := 3) hx hb dL_law_1747 (by decide) ?_
  refine lv_iadd hx hb dL_law_1748 ?_
  refine va_sld hx hb hX hbl hbA hS (lw_ix hi hL (rg_c (v := 3) (lo := 3) (hi := 3) (by decide)) (by decide)) dL_law_1749 ?_
  refine lw_cX (As := [.int (xs ((nI i) + 1).toNatClampNeg), .int (xs ((nI i) + 2).toNatClampNeg), .int (xs ((nI i) + 3).toNatClampNeg)]) (rest := []) ⟨hx, hb, hml, hown, htg⟩ (c_X6_fewest l D E G _ a C hT (xs ((nI i) + 1).toNatClampNeg) (xs ((nI i) + 2).toNatClampNeg) (xs ((nI i) + 3).toNatClampNeg)) (cwV 3 htg (oh_gV q_876 q_877 q_878 q_66 q_879) rfl rfl rfl pdVX6_fewest ⟨Nat.le_of_ble_eq_true rfl, Nat.le_of_ble_eq_true rfl⟩) hK hP hD hG hS hA (va_recv hK (oh_pre_P hP) (ci := 6) (q0 := 0) rfl (oh_wg (by decide) (sX_0 hT))) rfl hl.1 rfl (Nat.le_of_ble_eq_true rfl) dL_law_1750 ⟨show cN + 0 ≤ 600000 by omega, show sN + 0 ≤ 7302250 by omega⟩ (fun r_1 C_3 H locs hq_2 hP hD hS => ?_)
  obtain ⟨hT, f_4, hq_2⟩ := hq_2
  have ht1 : gi (C_3 5) 1 = gi (M 0) 7 := by rw [f_4.1 5 rfl (by decide)]; exact ht1
  have ht2 : gi (C_3 0) 2 = 0 ↔ n = 74 := by rw [show gi (C_3 0) 2 = gi (C 0) 2 from congrArg vi (f_4.2 2 (by decide))]; exact ht2
  have ht3 : ga (C_3 32) = ga (M 7) := Eq.trans (congrArg ga (f_4.1 32 rfl (by decide))) ht3
  have htK := htK.x (fr_all f_4 17 23 (by decide)) (f_4.1 2 rfl (by decide))
  have hAX : absX 10 C_3 A0 := absX_eq hAX (fun k k1 k2 => fr_all f_4 10 15 (by decide) k k1 (by omega))
  have hUX : absTX 1 16 C_3 T0 := absTX_eq hUX (congrArg (fun z => gi z 7) (f_4.1 1 rfl (by decide))) (f_4.1 16 rfl (by decide))
  have hSX : absHX C_3 S0 := hx_fr hSX (f_4.1 29 rfl (by decide)) (f_4.1 30 rfl (by decide))
  refine W.widen (k := cN) (n := sN) (Nat.le_refl _) (Nat.le_refl _) ?_
  refine lv_pop hx hb dL_law_1753 rfl ?_
  refine lv_aload_n hx hb dL_law_1754 rfl (lv_at hl 1 rfl) ?_
  refine lv_aload_n hx hb dL_law_1755 rfl (lv_at hl 3 rfl) ?_
  refine lv_iload_n hx hb dL_law_1756 rfl (lv_at hl 0 rfl) ?_
  refine lv_iconst (v := 1) hx hb dL_law_1757 (by decide) ?_
  refine lv_iadd hx hb dL_law_1758 ?_
  refine va_sld hx hb hX hbl hbA hS (lw_ix hi hL (rg_c (v := 1) (lo := 1) (hi := 1) (by decide)) (by decide)) dL_law_1759 ?_
  refine lv_aload_n hx hb dL_law_1760 rfl (lv_at hl 3 rfl) ?_
  refine lv_iload_n hx hb dL_law_1761 rfl (lv_at hl 0 rfl) ?_
  refine lv_iconst (v := 2) hx hb dL_law_1762 (by decide) ?_
  refine lv_iadd hx hb dL_law_1763 ?_
  refine va_sld hx hb hX hbl hbA hS (lw_ix hi hL (rg_c (v := 2) (lo := 2) (hi := 2) (by decide)) (by decide)) dL_law_1764 ?_
  refine lv_aload_n hx hb dL_law_1765 rfl (lv_at hl 3 rfl) ?_
  refine lv_iload_n hx hb dL_law_1766 rfl (lv_at hl 0 rfl) ?_
  refine lv_iconst (v := 3) hx hb dL_law_1767 (by decide) ?_
  refine lv_iadd hx hb dL_law_1768 ?_
  refine va_sld hx hb hX hbl hbA hS (lw_ix hi hL (rg_c (v := 3) (lo := 3) (hi := 3) (by decide)) (by decide)) dL_law_1769 ?_
  refine lw_cM (As := [.int (xs ((nI i) + 1).toNatClampNeg), .int (xs ((nI i) + 2).toNatClampNeg), .int (xs ((nI i) + 3).toNatClampNeg)]) (rest := []) ⟨hx, hb, hml, hown, htg⟩ (c_X7_fewest l D E G _ ma M n hn hTM (xs ((nI i) + 1).toNatClampNeg) (xs ((nI i) + 2).toNatClampNeg) (xs ((nI i) + 3).toNatClampNeg) hR) (cwV 3 htg (oh_gV q_1397 q_1398 q_1399 q_73 q_1400) rfl rfl rfl pdVX7_fewest ⟨Nat.le_of_ble_eq_true rfl, Nat.le_of_ble_eq_true rfl⟩) hK hP hD hG hS hA (va_recv hK (oh_suf_P hP) (ci := 7) (q0 := 0) rfl (oh_wg (by omega) (sM_0 hTM))) rfl hl.1 rfl (Nat.le_of_ble_eq_true rfl) dL_law_1770 ⟨show cN + 0 ≤ 600000 by omega, show sN + 0 ≤ 7302250 by omega⟩ (fun r_5 M_7 H locs hq_6 hP hD hS => ?_)
  have hTM0 := hTM
  obtain ⟨hTM, f_8, hR⟩ := hq_6
  have hkp := kept_fr hkp f_8 (by decide)
  have ht1 : gi (C_3 5) 1 = gi (M_7 0) 7 := by rw [show gi (M_7 0) 7 = gi (M 0) 7 from congrArg vi (f_8.2 7 (by decide))]; exact ht1
  have ht3 : ga (C_3 32) = ga (M_7 7) := Eq.trans ht3 (congrArg ga (f_8.1 7 rfl (by decide))).symm
  have htK := htK.m f_8 (by decide)
  have hAM : absM M_7 A0 := absM_fr hAM hTM0 f_8 (by decide) (by decide) (by decide)
  have hUM : absTM M_7 T0 := absTM_eq hUM (f_8.1 14 rfl (by decide)) (congrArg vi (f_8.2 19 (by decide)))
  have hSM : absHM M_7 S0 := hm_fr hSM (f_8.1 1 rfl (by decide)) (f_8.1 2 rfl (by decide)) (f_8.1 3 rfl (by decide)) (f_8.1 6 rfl (by decide))
  refine W.widen (k := cN) (n := sN) (Nat.le_refl _) (Nat.le_refl _) ?_
  refine lv_pop hx hb dL_law_1773 rfl ?_
  refine lv_goto (tgt := 2045) hx hb dL_law_1774 (by decide) ?_
  exact kk ma C_3 M_7 n (cN) (sN) H locs ls hT hTM hR hkp ht1 ht2 ht3 ⟨_, _, hAX, hAM, hok, hUX, hUM, _, hSX, hSM, hSN⟩ htK (by omega) (by omega) hP hD hS hl

set_option maxHeartbeats 4000000 in
set_option maxRecDepth 100000 in
/-- the law at a call of most -/
theorem lc_most {p : Program} {e : Env} {s : State} {m : MethodId} {below : List Frame} {meth : Method} {c : Code} (l : Launch) {b L : Nat} {xs : Nat → Int32} (C0 : lw_At p s m meth c b L xs) (hL : L ≤ 4096) {D : va_G} {E : Nat → ClassId} {G : Nat → Nat} {A : Nat → Prop} (hAe : A = fun q => s.heap.size ≤ q) (hK : va_K D vwCl (oh_ty E) s) (hG : oh_G G A s) {a : Nat → Nat} {i : Nat} (hi : i + 8 ≤ L) {ma : Nat → Nat} {C M : Nat → va_E} {n cN sN : Nat} (hT : TyX a E C) (hTM : TyM ma E M) (hR : RelM M) (hkp : KEPT E n ma M) (ht1 : gi (C 5) 1 = gi (M 0) 7) (ht2 : gi (C 0) 2 = 0 ↔ n = 74) (ht3 : ga (C 32) = ga (M 7)) (htA : ∃ (A0 : LA) (T0 : TP), absX 10 C A0 ∧ absM M A0 ∧ okA A0 ∧ absTX 1 16 C T0 ∧ absTM M T0 ∧ ∃ S0 : HZ, absHX C S0 ∧ absHM M S0 ∧ shN (A0 5 0 1) S0) (htK : TIEK n C M) (hcN : cN ≤ 35 + n) (hsN : sN ≤ 1477 + 16 * n) {H : Heap} {locs : List Loc} (hP : va_P D vwCl (oh_W 35 a C ++ oh_W n ma M) H) (hD : va_D A (oh_W 35 a C ++ oh_W n ma M)) (hS : va_S A s.heap H locs) {ls : Array Slot} (hl : lv_has ls 4 [(3, .int (nI i)), (2, .ref (ma 0)), (1, .ref (a 0)), (0, .ref b)]) (kk : ∀ (ma : Nat → Nat) (C M : Nat → va_E) (n cN sN : Nat) (H : Heap) (locs : List Loc) (ls : Array Slot), TyX a E C → TyM ma E M → RelM M → KEPT E n ma M → gi (C 5) 1 = gi (M 0) 7 → (gi (C 0) 2 = 0 ↔ n = 74) → ga (C 32) = ga (M 7) → (∃ (A0 : LA) (T0 : TP), absX 10 C A0 ∧ absM M A0 ∧ okA A0 ∧ absTX 1 16 C T0 ∧ absTM M T0 ∧ ∃ S0 : HZ, absHX C S0 ∧ absHM M S0 ∧ shN (A0 5 0 1) S0) → TIEK n C M → cN ≤ 35 + n → sN ≤ 1477 + 16 * n → va_P D vwCl (oh_W 35 a C ++ oh_W n ma M) H → va_D A (oh_W 35 a C ++ oh_W n ma M) → va_S A s.heap H locs → lv_has ls 4 [(3, .int (nI i)), (2, .ref (ma 0)), (1, .ref (a 0)), (0, .ref b)] → W p l e room_1 s m #[Value.ref b] below meth c H locs cN sN (lw_Z below #[Value.ref b] s) (F0 m 2045 ls [])) : W p l e room_1 s m #[Value.ref b] below meth c H locs cN sN (lw_Z below #[Value.ref b] s) (F0 m 1777 ls []) := by
  obtain ⟨hx, hb, hr, hml, hown, hts, hX, hbl, hlocks, hgv⟩ := id C0
  have hown : s.vm.findClass RL = some m.cls := hown
  have htg : ∀ w ∈ oh_t, w.before _ s = true := fun w h => hts w (List.mem_filter.mp h).1
  have hA : ∀ q, s.heap.size ≤ q → A q := fun q h => by rw [hAe]; exact h
  have hbA : ¬ A b := by rw [hAe]; exact Nat.not_le.mpr hbl
  have hn := hkp.le.1
  have hn8 := hkp.le.2
  have ht10 := ht1
  have ht20 := ht2
  have ht30 := ht3
  obtain ⟨A0, T0, hAX, hAM, hok, hUX, hUM, S0, hSX, hSM, hSN⟩ := htA
  have hAX0 := hAX
  have hAM0 := hAM
  have htK0 := htK
  have hSX0 := hSX
  have hSM0 := hSM
  have hSN0 := hSN
  have hUX0 := hUX
  have hok0 := hok
  refine lv_aload_n hx hb dL_law_1777 rfl (lv_at hl 2 rfl) ?_
  refine lv_aload_n hx hb dL_law_1778 rfl (lv_at hl 3 rfl) ?_
  refine lv_iload_n hx hb dL_law_1779 rfl (lv_at hl 0 rfl) ?_
  refine lv_iconst (v := 1) hx hb dL_law_1780 (by decide) ?_
  refine lv_iadd hx hb dL_law_1781 ?_
  refine va_sld hx hb hX hbl hbA hS (lw_ix hi hL (rg_c (v := 1) (lo := 1) (hi := 1) (by decide)) (by decide)) dL_law_1782 ?_
  refine lv_aload_n hx hb dL_law_1783 rfl (lv_at hl 3 rfl) ?_
  refine lv_iload_n hx hb dL_law_1784 rfl (lv_at hl 0 rfl) ?_
  refine lv_iconst (v := 2) hx hb dL_law_1785 (by decide) ?_
  refine lv_iadd hx hb dL_law_1786 ?_
  refine va_sld hx hb hX hbl hbA hS (lw_ix hi hL (rg_c (v := 2) (lo := 2) (hi := 2) (by decide)) (by decide)) dL_law_1787 ?_
  refine lv_aload_n hx hb dL_law_1788 rfl (lv_at hl 3 rfl) ?_
  refine lv_iload_n hx hb dL_law_1789 rfl (lv_at hl 0 rfl) ?_
  refine lv_iconst (v := 3) hx hb dL_law_1790 (by decide) ?_
  refine lv_iadd hx hb dL_law_1791 ?_
  refine va_sld hx hb hX hbl hbA hS (lw_ix hi hL (rg_c (v := 3) (lo := 3) (hi := 3) (by decide)) (by decide)) dL_law_1792 ?_
  refine lw_cX (As := [.int (xs ((nI i) + 1).toNatClampNeg), .int (xs ((nI i) + 2).toNatClampNeg), .int (xs ((nI i) + 3).toNatClampNeg)]) (rest := []) ⟨hx, hb, hml, hown, htg⟩ (e_X6_most l D E G _ a C hT (xs ((nI i) + 1).toNatClampNeg) (xs ((nI i) + 2).toNatClampNeg) (xs ((nI i) + 3).toNatClampNeg)) (cwV 3 htg (oh_gV q_885 q_886 q_887 q_66 q_888) rfl rfl rfl pdVX6_most ⟨Nat.le_of_ble_eq_true rfl, Nat.le_of_ble_eq_true rfl⟩) hK hP hD hG hS hA (va_recv hK (oh_pre_P hP) (ci := 6) (q0 := 0) rfl (oh_wg (by decide) (sX_0 hT))) rfl hl.1 rfl (Nat.le_of_ble_eq_true rfl) dL_law_1793 ⟨show cN + 0 ≤ 600000 by omega, show sN + 0 ≤ 7302250 by omega⟩ (fun r_1 C_3 H locs hq_2 hP hD hS => ?_)
  obtain ⟨hT, f_4, hq_2⟩ := hq_2
  have ht1 : gi (C_3 5) 1 = gi (M 0) 7 := by rw [f_4.1 5 rfl (by decide)]; exact ht1
  have ht2 : gi (C_3 0) 2 = 0 ↔ n = 74 := by rw [show gi (C_3 0) 2 = gi (C 0) 2 from congrArg vi (f_4.2 2 (by decide))]; exact ht2
  have ht3 : ga (C_3 32) = ga (M 7) := Eq.trans (congrArg ga (f_4.1 32 rfl (by decide))) ht3
  have htK := htK.x (fr_all f_4 17 23 (by decide)) (f_4.1 2 rfl (by decide))
  have hAX : absX 10 C_3 A0 := absX_g1 15 hAX f_4 hq_2 (by decide)
  have hUX : absTX 1 16 C_3 T0 := absTX_eq hUX (congrArg (fun z => gi z 7) (f_4.1 1 rfl (by decide))) (f_4.1 16 rfl (by decide))
  have hSX : absHX C_3 S0 := hx_fr hSX (f_4.1 29 rfl (by decide)) (f_4.1 30 rfl (by decide))
  refine W.widen (k := cN) (n := sN) (Nat.le_refl _) (Nat.le_refl _) ?_
  refine lv_pop hx hb dL_law_1796 rfl ?_
  refine lv_aload_n hx hb dL_law_1797 rfl (lv_at hl 1 rfl) ?_
  refine lv_aload_n hx hb dL_law_1798 rfl (lv_at hl 3 rfl) ?_
  refine lv_iload_n hx hb dL_law_1799 rfl (lv_at hl 0 rfl) ?_
  refine lv_iconst (v := 1) hx hb dL_law_1800 (by decide) ?_
  refine lv_iadd hx hb dL_law_1801 ?_
  refine va_sld hx hb hX hbl hbA hS (lw_ix hi hL (rg_c (v := 1) (lo := 1) (hi := 1) (by decide)) (by decide)) dL_law_1802 ?_
  refine lv_aload_n hx hb dL_law_1803 rfl (lv_at hl 3 rfl) ?_
  refine lv_iload_n hx hb dL_law_1804 rfl (lv_at hl 0 rfl) ?_
  refine lv_iconst (v := 2) hx hb dL_law_1805 (by decide) ?_
  refine lv_iadd hx hb dL_law_1806 ?_
  refine va_sld hx hb hX hbl hbA hS (lw_ix hi hL (rg_c (v := 2) (lo := 2) (hi := 2) (by decide)) (by decide)) dL_law_1807 ?_
  refine lv_aload_n hx hb dL_law_1808 rfl (lv_at hl 3 rfl) ?_
  refine lv_iload_n hx hb dL_law_1809 rfl (lv_at hl 0 rfl) ?_
  refine lv_iconst (v := 3) hx hb dL_law_1810 (by decide) ?_
  refine lv_iadd hx hb dL_law_1811 ?_
  refine va_sld hx hb hX hbl hbA hS (lw_ix hi hL (rg_c (v := 3) (lo := 3) (hi := 3) (by decide)) (by decide)) dL_law_1812 ?_
  refine lw_cM (As := [.int (xs ((nI i) + 1).toNatClampNeg), .int (xs ((nI i) + 2).toNatClampNeg), .int (xs ((nI i) + 3).toNatClampNeg)]) (rest := []) ⟨hx, hb, hml, hown, htg⟩ (e_X7_most l D E G _ ma M n hn hTM (xs ((nI i) + 1).toNatClampNeg) (xs ((nI i) + 2).toNatClampNeg) (xs ((nI i) + 3).toNatClampNeg) hR) (cwV 3 htg (oh_gV q_1401 q_1402 q_1403 q_73 q_1404) rfl rfl rfl pdVX7_most ⟨Nat.le_of_ble_eq_true rfl, Nat.le_of_ble_eq_true rfl⟩) hK hP hD hG hS hA (va_recv hK (oh_suf_P hP) (ci := 7) (q0 := 0) rfl (oh_wg (by omega) (sM_0 hTM))) rfl hl.1 rfl (Nat.le_of_ble_eq_true rfl) dL_law_1813 ⟨show cN + 0 ≤ 600000 by omega, show sN + 0 ≤ 7302250 by omega⟩ (fun r_5 M_7 H locs hq_6 hP hD hS => ?_)
  have hTM0 := hTM
  obtain ⟨hTM, f_8, hR, hq_6⟩ := hq_6
  have hkp := kept_fr hkp f_8 (by decide)
  have ht1 : gi (C_3 5) 1 = gi (M_7 0) 7 := by rw [show gi (M_7 0) 7 = gi (M 0) 7 from congrArg vi (f_8.2 7 (by decide))]; exact ht1
  have ht3 : ga (C_3 32) = ga (M_7 7) := Eq.trans ht3 (congrArg ga (f_8.1 7 rfl (by decide))).symm
  have htK := htK.m f_8 (by decide)
  have hAM : absM M_7 A0 := absM_13 hAM hTM0 hq_6 f_8 (by decide) (by decide)
  have hUM : absTM M_7 T0 := absTM_eq hUM (f_8.1 14 rfl (by decide)) (congrArg vi (f_8.2 19 (by decide)))
  have hSM : absHM M_7 S0 := hm_fr hSM (f_8.1 1 rfl (by decide)) (f_8.1 2 rfl (by decide)) (f_8.1 3 rfl (by decide)) (f_8.1 6 rfl (by decide))
  refine W.widen (k := cN) (n := sN) (Nat.le_refl _) (Nat.le_refl _) ?_
  refine lv_pop hx hb dL_law_1816 rfl ?_
  refine lv_goto (tgt := 2045) hx hb dL_law_1817 (by decide) ?_
  exact kk ma C_3 M_7 n (cN) (sN) H locs ls hT hTM hR hkp ht1 ht2 ht3 ⟨_, _, hAX, hAM, hok, hUX, hUM, _, hSX, hSM, hSN⟩ htK (by omega) (by omega) hP hD hS hl

set_option maxHeartbeats 4000000 in
set_option maxRecDepth 100000 in
/-- the law at a call of frost -/
theorem lc_frost {p : Program} {e : Env} {s : State} {m : MethodId} {below : List Frame} {meth : Method} {c : Code} (l : Launch) {b L : Nat} {xs : Nat → Int32} (C0 : lw_At p s m meth c b L xs) (hL : L ≤ 4096) {D : va_G} {E : Nat → ClassId} {G : Nat → Nat} {A : Nat → Prop} (hAe : A = fun q => s.heap.size ≤ q) (hK : va_K D vwCl (oh_ty E) s) (hG : oh_G G A s) {a : Nat → Nat} {i : Nat} (hi : i + 8 ≤ L) {ma : Nat → Nat} {C M : Nat → va_E} {n cN sN : Nat} (hT : TyX a E C) (hTM : TyM ma E M) (hR : RelM M) (hkp : KEPT E n ma M) (ht1 : gi (C 5) 1 = gi (M 0) 7) (ht2 : gi (C 0) 2 = 0 ↔ n = 74) (ht3 : ga (C 32) = ga (M 7)) (htA : ∃ (A0 : LA) (T0 : TP), absX 10 C A0 ∧ absM M A0 ∧ okA A0 ∧ absTX 1 16 C T0 ∧ absTM M T0 ∧ ∃ S0 : HZ, absHX C S0 ∧ absHM M S0 ∧ shN (A0 5 0 1) S0) (htK : TIEK n C M) (hcN : cN ≤ 35 + n) (hsN : sN ≤ 1477 + 16 * n) {H : Heap} {locs : List Loc} (hP : va_P D vwCl (oh_W 35 a C ++ oh_W n ma M) H) (hD : va_D A (oh_W 35 a C ++ oh_W n ma M)) (hS : va_S A s.heap H locs) {ls : Array Slot} (hl : lv_has ls 4 [(3, .int (nI i)), (2, .ref (ma 0)), (1, .ref (a 0)), (0, .ref b)]) (kk : ∀ (ma : Nat → Nat) (C M : Nat → va_E) (n cN sN : Nat) (H : Heap) (locs : List Loc) (ls : Array Slot), TyX a E C → TyM ma E M → RelM M → KEPT E n ma M → gi (C 5) 1 = gi (M 0) 7 → (gi (C 0) 2 = 0 ↔ n = 74) → ga (C 32) = ga (M 7) → (∃ (A0 : LA) (T0 : TP), absX 10 C A0 ∧ absM M A0 ∧ okA A0 ∧ absTX 1 16 C T0 ∧ absTM M T0 ∧ ∃ S0 : HZ, absHX C S0 ∧ absHM M S0 ∧ shN (A0 5 0 1) S0) → TIEK n C M → cN ≤ 35 + n → sN ≤ 1477 + 16 * n → va_P D vwCl (oh_W 35 a C ++ oh_W n ma M) H → va_D A (oh_W 35 a C ++ oh_W n ma M) → va_S A s.heap H locs → lv_has ls 4 [(3, .int (nI i)), (2, .ref (ma 0)), (1, .ref (a 0)), (0, .ref b)] → W p l e room_1 s m #[Value.ref b] below meth c H locs cN sN (lw_Z below #[Value.ref b] s) (F0 m 2045 ls [])) : W p l e room_1 s m #[Value.ref b] below meth c H locs cN sN (lw_Z below #[Value.ref b] s) (F0 m 1820 ls []) := by
  obtain ⟨hx, hb, hr, hml, hown, hts, hX, hbl, hlocks, hgv⟩ := id C0
  have hown : s.vm.findClass RL = some m.cls := hown
  have htg : ∀ w ∈ oh_t, w.before _ s = true := fun w h => hts w (List.mem_filter.mp h).1
  have hA : ∀ q, s.heap.size ≤ q → A q := fun q h => by rw [hAe]; exact h
  have hbA : ¬ A b := by rw [hAe]; exact Nat.not_le.mpr hbl
  have hn := hkp.le.1
  have hn8 := hkp.le.2
  have ht10 := ht1
  have ht20 := ht2
  have ht30 := ht3
  obtain ⟨A0, T0, hAX, hAM, hok, hUX, hUM, S0, hSX, hSM, hSN⟩ := htA
  have hAX0 := hAX
  have hAM0 := hAM
  have htK0 := htK
  have hSX0 := hSX
  have hSM0 := hSM
  have hSN0 := hSN
  have hUX0 := hUX
  have hok0 := hok
  refine lv_aload_n hx hb dL_law_1820 rfl (lv_at hl 2 rfl) ?_
  refine lv_aload_n hx hb dL_law_1821 rfl (lv_at hl 3 rfl) ?_
  refine lv_iload_n hx hb dL_law_1822 rfl (lv_at hl 0 rfl) ?_
  refine lv_iconst (v := 1) hx hb dL_law_1823 (by decide) ?_
  refine lv_iadd hx hb dL_law_1824 ?_
  refine va_sld hx hb hX hbl hbA hS (lw_ix hi hL (rg_c (v := 1) (lo := 1) (hi := 1) (by decide)) (by decide)) dL_law_1825 ?_
  refine lv_aload_n hx hb dL_law_1826 rfl (lv_at hl 3 rfl) ?_
  refine lv_iload_n hx hb dL_law_1827 rfl (lv_at hl 0 rfl) ?_
  refine lv_iconst (v := 2) hx hb dL_law_1828 (by decide) ?_
  refine lv_iadd hx hb dL_law_1829 ?_
  refine va_sld hx hb hX hbl hbA hS (lw_ix hi hL (rg_c (v := 2) (lo := 2) (hi := 2) (by decide)) (by decide)) dL_law_1830 ?_
  refine lv_aload_n hx hb dL_law_1831 rfl (lv_at hl 3 rfl) ?_
  refine lv_iload_n hx hb dL_law_1832 rfl (lv_at hl 0 rfl) ?_
  refine lv_iconst (v := 3) hx hb dL_law_1833 (by decide) ?_
  refine lv_iadd hx hb dL_law_1834 ?_
  refine va_sld hx hb hX hbl hbA hS (lw_ix hi hL (rg_c (v := 3) (lo := 3) (hi := 3) (by decide)) (by decide)) dL_law_1835 ?_
  refine lv_aload_n hx hb dL_law_1836 rfl (lv_at hl 3 rfl) ?_
  refine lv_iload_n hx hb dL_law_1837 rfl (lv_at hl 0 rfl) ?_
  refine lv_iconst (v := 4) hx hb dL_law_1838 (by decide) ?_
  refine lv_iadd hx hb dL_law_1839 ?_
  refine va_sld hx hb hX hbl hbA hS (lw_ix hi hL (rg_c (v := 4) (lo := 4) (hi := 4) (by decide)) (by decide)) dL_law_1840 ?_
  refine lv_aload_n hx hb dL_law_1841 rfl (lv_at hl 3 rfl) ?_
  refine lv_iload_n hx hb dL_law_1842 rfl (lv_at hl 0 rfl) ?_
  refine lv_iconst (v := 5) hx hb dL_law_1843 (by decide) ?_
  refine lv_iadd hx hb dL_law_1844 ?_
  refine va_sld hx hb hX hbl hbA hS (lw_ix hi hL (rg_c (v := 5) (lo := 5) (hi := 5) (by decide)) (by decide)) dL_law_1845 ?_
  refine lv_aload_n hx hb dL_law_1846 rfl (lv_at hl 3 rfl) ?_
  refine lv_iload_n hx hb dL_law_1847 rfl (lv_at hl 0 rfl) ?_
  refine lv_bipush (v := 6) hx hb dL_law_1848 (by decide) ?_
  refine lv_iadd hx hb dL_law_1850 ?_
  refine va_sld hx hb hX hbl hbA hS (lw_ix hi hL (rg_c (v := 6) (lo := 6) (hi := 6) (by decide)) (by decide)) dL_law_1851 ?_
  refine lv_aload_n hx hb dL_law_1852 rfl (lv_at hl 3 rfl) ?_
  refine lv_iload_n hx hb dL_law_1853 rfl (lv_at hl 0 rfl) ?_
  refine lv_bipush (v := 7) hx hb dL_law_1854 (by decide) ?_
  refine lv_iadd hx hb dL_law_1856 ?_
  refine va_sld hx hb hX hbl hbA hS (lw_ix hi hL (rg_c (v := 7) (lo := 7) (hi := 7) (by decide)) (by decide)) dL_law_1857 ?_
  refine lw_cXl (As := [.int (xs ((nI i) + 1).toNatClampNeg), .int (xs ((nI i) + 2).toNatClampNeg), .int (xs ((nI i) + 3).toNatClampNeg), .int (xs ((nI i) + 4).toNatClampNeg), .int (xs ((nI i) + 5).toNatClampNeg), .int (xs ((nI i) + 6).toNatClampNeg), .int (xs ((nI i) + 7).toNatClampNeg)]) (rest := []) ⟨hx, hb, hml, hown, htg⟩ (e_X6_frost l D E G _ a C hT (xs ((nI i) + 1).toNatClampNeg) (xs ((nI i) + 2).toNatClampNeg) (xs ((nI i) + 3).toNatClampNeg) (xs ((nI i) + 4).toNatClampNeg) (xs ((nI i) + 5).toNatClampNeg) (xs ((nI i) + 6).toNatClampNeg) (xs ((nI i) + 7).toNatClampNeg)) (cwV 7 htg (oh_gV q_893 q_894 q_895 q_66 q_896) rfl rfl rfl pdVX6_frost ⟨Nat.le_of_ble_eq_true rfl, Nat.le_of_ble_eq_true rfl⟩) hK hP hD hG hS hA (va_recv hK (oh_pre_P hP) (ci := 6) (q0 := 0) rfl (oh_wg (by decide) (sX_0 hT))) rfl hl.1 rfl (Nat.le_of_ble_eq_true rfl) dL_law_1858 ⟨show cN + 0 ≤ 600000 by omega, show sN + 0 ≤ 7302250 by omega⟩ (fun r_1 C_3 H locs hq_2 hP hD hS => ?_)
  obtain ⟨hT, f_4, hq_2⟩ := hq_2
  have ht1 : gi (C_3 5) 1 = gi (M 0) 7 := by rw [f_4.1 5 rfl (by decide)]; exact ht1
  have ht2 : gi (C_3 0) 2 = 0 ↔ n = 74 := by rw [show gi (C_3 0) 2 = gi (C 0) 2 from congrArg vi (f_4.2 2 (by decide))]; exact ht2
  have ht3 : ga (C_3 32) = ga (M 7) := Eq.trans (congrArg ga (f_4.1 32 rfl (by decide))) ht3
  have htK := htK.x (fr_all f_4 17 23 (by decide)) (f_4.1 2 rfl (by decide))
  have hAX : absX 10 C_3 A0 := absX_g1 15 hAX f_4 hq_2 (by decide)
  have hUX : absTX 1 16 C_3 T0 := absTX_eq hUX (congrArg (fun z => gi z 7) (f_4.1 1 rfl (by decide))) (f_4.1 16 rfl (by decide))
  have hSX : absHX C_3 S0 := hx_fr hSX (f_4.1 29 rfl (by decide)) (f_4.1 30 rfl (by decide))
  refine W.widen (k := cN) (n := sN) (Nat.le_refl _) (Nat.le_refl _) ?_
  refine lv_pop2_2 hx hb dL_law_1861 rfl ?_
  refine lv_aload_n hx hb dL_law_1862 rfl (lv_at hl 1 rfl) ?_
  refine lv_aload_n hx hb dL_law_1863 rfl (lv_at hl 3 rfl) ?_
  refine lv_iload_n hx hb dL_law_1864 rfl (lv_at hl 0 rfl) ?_
  refine lv_iconst (v := 1) hx hb dL_law_1865 (by decide) ?_
  refine lv_iadd hx hb dL_law_1866 ?_
  refine va_sld hx hb hX hbl hbA hS (lw_ix hi hL (rg_c (v := 1) (lo := 1) (hi := 1) (by decide)) (by decide)) dL_law_1867 ?_
  refine lv_aload_n hx hb dL_law_1868 rfl (lv_at hl 3 rfl) ?_
  refine lv_iload_n hx hb dL_law_1869 rfl (lv_at hl 0 rfl) ?_
  refine lv_iconst (v := 2) hx hb dL_law_1870 (by decide) ?_
  refine lv_iadd hx hb dL_law_1871 ?_
  refine va_sld hx hb hX hbl hbA hS (lw_ix hi hL (rg_c (v := 2) (lo := 2) (hi := 2) (by decide)) (by decide)) dL_law_1872 ?_
  refine lv_aload_n hx hb dL_law_1873 rfl (lv_at hl 3 rfl) ?_
  refine lv_iload_n hx hb dL_law_1874 rfl (lv_at hl 0 rfl) ?_
  refine lv_iconst (v := 3) hx hb dL_law_1875 (by decide) ?_
  refine lv_iadd hx hb dL_law_1876 ?_
  refine va_sld hx hb hX hbl hbA hS (lw_ix hi hL (rg_c (v := 3) (lo := 3) (hi := 3) (by decide)) (by decide)) dL_law_1877 ?_
  refine lv_aload_n hx hb dL_law_1878 rfl (lv_at hl 3 rfl) ?_
  refine lv_iload_n hx hb dL_law_1879 rfl (lv_at hl 0 rfl) ?_
  refine lv_iconst (v := 4) hx hb dL_law_1880 (by decide) ?_
  refine lv_iadd hx hb dL_law_1881 ?_
  refine va_sld hx hb hX hbl hbA hS (lw_ix hi hL (rg_c (v := 4) (lo := 4) (hi := 4) (by decide)) (by decide)) dL_law_1882 ?_
  refine lv_aload_n hx hb dL_law_1883 rfl (lv_at hl 3 rfl) ?_
  refine lv_iload_n hx hb dL_law_1884 rfl (lv_at hl 0 rfl) ?_
  refine lv_iconst (v := 5) hx hb dL_law_1885 (by decide) ?_
  refine lv_iadd hx hb dL_law_1886 ?_
  refine va_sld hx hb hX hbl hbA hS (lw_ix hi hL (rg_c (v := 5) (lo := 5) (hi := 5) (by decide)) (by decide)) dL_law_1887 ?_
  refine lv_aload_n hx hb dL_law_1888 rfl (lv_at hl 3 rfl) ?_
  refine lv_iload_n hx hb dL_law_1889 rfl (lv_at hl 0 rfl) ?_
  refine lv_bipush (v := 6) hx hb dL_law_1890 (by decide) ?_
  refine lv_iadd hx hb dL_law_1892 ?_
  refine va_sld hx hb hX hbl hbA hS (lw_ix hi hL (rg_c (v := 6) (lo := 6) (hi := 6) (by decide)) (by decide)) dL_law_1893 ?_
  refine lv_aload_n hx hb dL_law_1894 rfl (lv_at hl 3 rfl) ?_
  refine lv_iload_n hx hb dL_law_1895 rfl (lv_at hl 0 rfl) ?_
  refine lv_bipush (v := 7) hx hb dL_law_1896 (by decide) ?_
  refine lv_iadd hx hb dL_law_1898 ?_
  refine va_sld hx hb hX hbl hbA hS (lw_ix hi hL (rg_c (v := 7) (lo := 7) (hi := 7) (by decide)) (by decide)) dL_law_1899 ?_
  refine lw_cMl (As := [.int (xs ((nI i) + 1).toNatClampNeg), .int (xs ((nI i) + 2).toNatClampNeg), .int (xs ((nI i) + 3).toNatClampNeg), .int (xs ((nI i) + 4).toNatClampNeg), .int (xs ((nI i) + 5).toNatClampNeg), .int (xs ((nI i) + 6).toNatClampNeg), .int (xs ((nI i) + 7).toNatClampNeg)]) (rest := []) ⟨hx, hb, hml, hown, htg⟩ (e_X7_frost l D E G _ ma M n hn hTM (xs ((nI i) + 1).toNatClampNeg) (xs ((nI i) + 2).toNatClampNeg) (xs ((nI i) + 3).toNatClampNeg) (xs ((nI i) + 4).toNatClampNeg) (xs ((nI i) + 5).toNatClampNeg) (xs ((nI i) + 6).toNatClampNeg) (xs ((nI i) + 7).toNatClampNeg) hR) (cwV 7 htg (oh_gV q_1405 q_1406 q_1407 q_73 q_1408) rfl rfl rfl pdVX7_frost ⟨Nat.le_of_ble_eq_true rfl, Nat.le_of_ble_eq_true rfl⟩) hK hP hD hG hS hA (va_recv hK (oh_suf_P hP) (ci := 7) (q0 := 0) rfl (oh_wg (by omega) (sM_0 hTM))) rfl hl.1 rfl (Nat.le_of_ble_eq_true rfl) dL_law_1900 ⟨show cN + 0 ≤ 600000 by omega, show sN + 0 ≤ 7302250 by omega⟩ (fun r_5 M_7 H locs hq_6 hP hD hS => ?_)
  have hTM0 := hTM
  obtain ⟨hTM, f_8, hR, hq_6⟩ := hq_6
  have hkp := kept_fr hkp f_8 (by decide)
  have ht1 : gi (C_3 5) 1 = gi (M_7 0) 7 := by rw [show gi (M_7 0) 7 = gi (M 0) 7 from congrArg vi (f_8.2 7 (by decide))]; exact ht1
  have ht3 : ga (C_3 32) = ga (M_7 7) := Eq.trans ht3 (congrArg ga (f_8.1 7 rfl (by decide))).symm
  have htK := htK.m f_8 (by decide)
  have hAM : absM M_7 A0 := absM_13 hAM hTM0 hq_6 f_8 (by decide) (by decide)
  have hUM : absTM M_7 T0 := absTM_eq hUM (f_8.1 14 rfl (by decide)) (congrArg vi (f_8.2 19 (by decide)))
  have hSM : absHM M_7 S0 := hm_fr hSM (f_8.1 1 rfl (by decide)) (f_8.1 2 rfl (by decide)) (f_8.1 3 rfl (by decide)) (f_8.1 6 rfl (by decide))
  refine W.widen (k := cN) (n := sN) (Nat.le_refl _) (Nat.le_refl _) ?_
  refine lv_pop2_2 hx hb dL_law_1903 rfl ?_
  refine lv_goto (tgt := 2045) hx hb dL_law_1904 (by decide) ?_
  exact kk ma C_3 M_7 n (cN) (sN) H locs ls hT hTM hR hkp ht1 ht2 ht3 ⟨_, _, hAX, hAM, hok, hUX, hUM, _, hSX, hSM, hSN⟩ htK (by omega) (by omega) hP hD hS hl

set_option maxHeartbeats 4000000 in
set_option maxRecDepth 100000 in
/-- the law at a call of begin -/
theorem lc_begin {p : Program} {e : Env} {s : State} {m : MethodId} {below : List Frame} {meth : Method} {c : Code} (l : Launch) {b L : Nat} {xs : Nat → Int32} (C0 : lw_At p s m meth c b L xs) (hL : L ≤ 4096) {D : va_G} {E : Nat → ClassId} {G : Nat → Nat} {A : Nat → Prop} (hAe : A = fun q => s.heap.size ≤ q) (hK : va_K D vwCl (oh_ty E) s) (hG : oh_G G A s) {a : Nat → Nat} {i : Nat} (hi : i + 8 ≤ L) {ma : Nat → Nat} {C M : Nat → va_E} {n cN sN : Nat} (hT : TyX a E C) (hTM : TyM ma E M) (hR : RelM M) (hkp : KEPT E n ma M) (ht1 : gi (C 5) 1 = gi (M 0) 7) (ht2 : gi (C 0) 2 = 0 ↔ n = 74) (ht3 : ga (C 32) = ga (M 7)) (htA : ∃ (A0 : LA) (T0 : TP), absX 10 C A0 ∧ absM M A0 ∧ okA A0 ∧ absTX 1 16 C T0 ∧ absTM M T0 ∧ ∃ S0 : HZ, absHX C S0 ∧ absHM M S0 ∧ shN (A0 5 0 1) S0) (htK : TIEK n C M) (hcN : cN ≤ 35 + n) (hsN : sN ≤ 1477 + 16 * n) {H : Heap} {locs : List Loc} (hP : va_P D vwCl (oh_W 35 a C ++ oh_W n ma M) H) (hD : va_D A (oh_W 35 a C ++ oh_W n ma M)) (hS : va_S A s.heap H locs) {ls : Array Slot} (hl : lv_has ls 4 [(3, .int (nI i)), (2, .ref (ma 0)), (1, .ref (a 0)), (0, .ref b)]) (kk : ∀ (ma : Nat → Nat) (C M : Nat → va_E) (n cN sN : Nat) (H : Heap) (locs : List Loc) (ls : Array Slot), TyX a E C → TyM ma E M → RelM M → KEPT E n ma M → gi (C 5) 1 = gi (M 0) 7 → (gi (C 0) 2 = 0 ↔ n = 74) → ga (C 32) = ga (M 7) → (∃ (A0 : LA) (T0 : TP), absX 10 C A0 ∧ absM M A0 ∧ okA A0 ∧ absTX 1 16 C T0 ∧ absTM M T0 ∧ ∃ S0 : HZ, absHX C S0 ∧ absHM M S0 ∧ shN (A0 5 0 1) S0) → TIEK n C M → cN ≤ 35 + n → sN ≤ 1477 + 16 * n → va_P D vwCl (oh_W 35 a C ++ oh_W n ma M) H → va_D A (oh_W 35 a C ++ oh_W n ma M) → va_S A s.heap H locs → lv_has ls 4 [(3, .int (nI i)), (2, .ref (ma 0)), (1, .ref (a 0)), (0, .ref b)] → W p l e room_1 s m #[Value.ref b] below meth c H locs cN sN (lw_Z below #[Value.ref b] s) (F0 m 2045 ls [])) : W p l e room_1 s m #[Value.ref b] below meth c H locs cN sN (lw_Z below #[Value.ref b] s) (F0 m 1907 ls []) := by
  obtain ⟨hx, hb, hr, hml, hown, hts, hX, hbl, hlocks, hgv⟩ := id C0
  have hown : s.vm.findClass RL = some m.cls := hown
  have htg : ∀ w ∈ oh_t, w.before _ s = true := fun w h => hts w (List.mem_filter.mp h).1
  have hA : ∀ q, s.heap.size ≤ q → A q := fun q h => by rw [hAe]; exact h
  have hbA : ¬ A b := by rw [hAe]; exact Nat.not_le.mpr hbl
  have hn := hkp.le.1
  have hn8 := hkp.le.2
  have ht10 := ht1
  have ht20 := ht2
  have ht30 := ht3
  obtain ⟨A0, T0, hAX, hAM, hok, hUX, hUM, S0, hSX, hSM, hSN⟩ := htA
  have hAX0 := hAX
  have hAM0 := hAM
  have htK0 := htK
  have hSX0 := hSX
  have hSM0 := hSM
  have hSN0 := hSN
  have hUX0 := hUX
  have hok0 := hok
  refine lv_aload_n hx hb dL_law_1907 rfl (lv_at hl 2 rfl) ?_
  refine lv_aload_n hx hb dL_law_1908 rfl (lv_at hl 3 rfl) ?_
  refine lv_iload_n hx hb dL_law_1909 rfl (lv_at hl 0 rfl) ?_
  refine lv_iconst (v := 1) hx hb dL_law_1910 (by decide) ?_
  refine lv_iadd hx hb dL_law_1911 ?_
  refine va_sld hx hb hX hbl hbA hS (lw_ix hi hL (rg_c (v := 1) (lo := 1) (hi := 1) (by decide)) (by decide)) dL_law_1912 ?_
  refine lv_aload_n hx hb dL_law_1913 rfl (lv_at hl 3 rfl) ?_
  refine lv_iload_n hx hb dL_law_1914 rfl (lv_at hl 0 rfl) ?_
  refine lv_iconst (v := 2) hx hb dL_law_1915 (by decide) ?_
  refine lv_iadd hx hb dL_law_1916 ?_
  refine va_sld hx hb hX hbl hbA hS (lw_ix hi hL (rg_c (v := 2) (lo := 2) (hi := 2) (by decide)) (by decide)) dL_law_1917 ?_
  refine lv_aload_n hx hb dL_law_1918 rfl (lv_at hl 3 rfl) ?_
  refine lv_iload_n hx hb dL_law_1919 rfl (lv_at hl 0 rfl) ?_
  refine lv_iconst (v := 3) hx hb dL_law_1920 (by decide) ?_
  refine lv_iadd hx hb dL_law_1921 ?_
  refine va_sld hx hb hX hbl hbA hS (lw_ix hi hL (rg_c (v := 3) (lo := 3) (hi := 3) (by decide)) (by decide)) dL_law_1922 ?_
  refine lv_aload_n hx hb dL_law_1923 rfl (lv_at hl 3 rfl) ?_
  refine lv_iload_n hx hb dL_law_1924 rfl (lv_at hl 0 rfl) ?_
  refine lv_iconst (v := 4) hx hb dL_law_1925 (by decide) ?_
  refine lv_iadd hx hb dL_law_1926 ?_
  refine va_sld hx hb hX hbl hbA hS (lw_ix hi hL (rg_c (v := 4) (lo := 4) (hi := 4) (by decide)) (by decide)) dL_law_1927 ?_
  refine lw_cX (As := [.int (xs ((nI i) + 1).toNatClampNeg), .int (xs ((nI i) + 2).toNatClampNeg), .int (xs ((nI i) + 3).toNatClampNeg), .int (xs ((nI i) + 4).toNatClampNeg)]) (rest := []) ⟨hx, hb, hml, hown, htg⟩ (e2_X6_begin l D E G _ a C hT (xs ((nI i) + 1).toNatClampNeg) (xs ((nI i) + 2).toNatClampNeg) (xs ((nI i) + 3).toNatClampNeg) (xs ((nI i) + 4).toNatClampNeg)) (cwV 4 htg (oh_gV q_904 q_905 q_906 q_66 q_907) rfl rfl rfl pdVX6_begin ⟨Nat.le_of_ble_eq_true rfl, Nat.le_of_ble_eq_true rfl⟩) hK hP hD hG hS hA (va_recv hK (oh_pre_P hP) (ci := 6) (q0 := 0) rfl (oh_wg (by decide) (sX_0 hT))) rfl hl.1 rfl (Nat.le_of_ble_eq_true rfl) dL_law_1928 ⟨show cN + 0 ≤ 600000 by omega, show sN + 0 ≤ 7302250 by omega⟩ (fun r_1 C_3 H locs hq_2 hP hD hS => ?_)
  obtain ⟨hT, f_4, hq_2⟩ := hq_2
  have ht1 : gi (C_3 5) 1 = gi (M 0) 7 := by rw [f_4.1 5 rfl (by decide)]; exact ht1
  have ht2 : gi (C_3 0) 2 = 0 ↔ n = 74 := by rw [show gi (C_3 0) 2 = gi (C 0) 2 from congrArg vi (f_4.2 2 (by decide))]; exact ht2
  have ht3 : ga (C_3 32) = ga (M 7) := Eq.trans (congrArg ga (f_4.1 32 rfl (by decide))) ht3
  have htK := htK.x (fr_all f_4 17 23 (by decide)) (f_4.1 2 rfl (by decide))
  have hX_5 := hq_2.1 A0 hAX0
  have hAX : absX 10 C_3 A0 := absX_eq hAX (fun k k1 k2 => fr_all f_4 10 15 (by decide) k k1 (by omega))
  have hUX := hq_2.2 A0 T0 hAX0 hUX
  have hSX : absHX C_3 S0 := hx_fr hSX (f_4.1 29 rfl (by decide)) (f_4.1 30 rfl (by decide))
  refine W.widen (k := cN) (n := sN) (Nat.le_refl _) (Nat.le_refl _) ?_
  refine lv_pop hx hb dL_law_1931 rfl ?_
  refine lv_aload_n hx hb dL_law_1932 rfl (lv_at hl 1 rfl) ?_
  refine lv_aload_n hx hb dL_law_1933 rfl (lv_at hl 3 rfl) ?_
  refine lv_iload_n hx hb dL_law_1934 rfl (lv_at hl 0 rfl) ?_
  refine lv_iconst (v := 1) hx hb dL_law_1935 (by decide) ?_
  refine lv_iadd hx hb dL_law_1936 ?_
  refine va_sld hx hb hX hbl hbA hS (lw_ix hi hL (rg_c (v := 1) (lo := 1) (hi := 1) (by decide)) (by decide)) dL_law_1937 ?_
  refine lv_aload_n hx hb dL_law_1938 rfl (lv_at hl 3 rfl) ?_
  refine lv_iload_n hx hb dL_law_1939 rfl (lv_at hl 0 rfl) ?_
  refine lv_iconst (v := 2) hx hb dL_law_1940 (by decide) ?_
  refine lv_iadd hx hb dL_law_1941 ?_
  refine va_sld hx hb hX hbl hbA hS (lw_ix hi hL (rg_c (v := 2) (lo := 2) (hi := 2) (by decide)) (by decide)) dL_law_1942 ?_
  refine lv_aload_n hx hb dL_law_1943 rfl (lv_at hl 3 rfl) ?_
  refine lv_iload_n hx hb dL_law_1944 rfl (lv_at hl 0 rfl) ?_
  refine lv_iconst (v := 3) hx hb dL_law_1945 (by decide) ?_
  refine lv_iadd hx hb dL_law_1946 ?_
  refine va_sld hx hb hX hbl hbA hS (lw_ix hi hL (rg_c (v := 3) (lo := 3) (hi := 3) (by decide)) (by decide)) dL_law_1947 ?_
  refine lv_aload_n hx hb dL_law_1948 rfl (lv_at hl 3 rfl) ?_
  refine lv_iload_n hx hb dL_law_1949 rfl (lv_at hl 0 rfl) ?_
  refine lv_iconst (v := 4) hx hb dL_law_1950 (by decide) ?_
  refine lv_iadd hx hb dL_law_1951 ?_
  refine va_sld hx hb hX hbl hbA hS (lw_ix hi hL (rg_c (v := 4) (lo := 4) (hi := 4) (by decide)) (by decide)) dL_law_1952 ?_
  refine lw_cM (As := [.int (xs ((nI i) + 1).toNatClampNeg), .int (xs ((nI i) + 2).toNatClampNeg), .int (xs ((nI i) + 3).toNatClampNeg), .int (xs ((nI i) + 4).toNatClampNeg)]) (rest := []) ⟨hx, hb, hml, hown, htg⟩ (e2_X7_begin l D E G _ ma M n hn hTM (xs ((nI i) + 1).toNatClampNeg) (xs ((nI i) + 2).toNatClampNeg) (xs ((nI i) + 3).toNatClampNeg) (xs ((nI i) + 4).toNatClampNeg) hR) (cwV 4 htg (oh_gV q_1409 q_1410 q_1411 q_73 q_1412) rfl rfl rfl pdVX7_begin ⟨Nat.le_of_ble_eq_true rfl, Nat.le_of_ble_eq_true rfl⟩) hK hP hD hG hS hA (va_recv hK (oh_suf_P hP) (ci := 7) (q0 := 0) rfl (oh_wg (by omega) (sM_0 hTM))) rfl hl.1 rfl (Nat.le_of_ble_eq_true rfl) dL_law_1953 ⟨show cN + 0 ≤ 600000 by omega, show sN + 0 ≤ 7302250 by omega⟩ (fun r_6 M_8 H locs hq_7 hP hD hS => ?_)
  have hTM0 := hTM
  obtain ⟨hTM, f_9, hR, hq_7⟩ := hq_7
  have hkp := kept_fr hkp f_9 (by decide)
  have ht1 : gi (C_3 5) 1 = gi (M_8 0) 7 := by rw [show gi (M_8 0) 7 = gi (M 0) 7 from congrArg vi (f_9.2 7 (by decide))]; exact ht1
  have ht3 : ga (C_3 32) = ga (M_8 7) := Eq.trans ht3 (congrArg ga (f_9.1 7 rfl (by decide))).symm
  have htK := htK.m f_9 (by decide)
  have hM_10 := hq_7.1 A0 hAM0
  have hAM : absM M_8 A0 := absM_fr hAM hTM0 f_9 (by decide) (by decide) (by decide)
  have hUM := hq_7.2 A0 T0 hAM0 hUM
  have hSM : absHM M_8 S0 := hm_fr hSM (f_9.1 1 rfl (by decide)) (f_9.1 2 rfl (by decide)) (f_9.1 3 rfl (by decide)) (f_9.1 6 rfl (by decide))
  refine W.widen (k := cN) (n := sN) (Nat.le_refl _) (Nat.le_refl _) ?_
  refine lv_pop hx hb dL_law_1956 rfl ?_
  refine lv_goto (tgt := 2045) hx hb dL_law_1957 (by decide) ?_
  exact kk ma C_3 M_8 n (cN) (sN) H locs ls hT hTM hR hkp ht1 ht2 ht3 ⟨_, _, hAX, hAM, hok, hUX, hUM, _, hSX, hSM, hSN⟩ htK (by omega) (by omega) hP hD hS hl

set_option maxHeartbeats 4000000 in
set_option maxRecDepth 100000 in
/-- the law at a call of step -/
theorem lc_step {p : Program} {e : Env} {s : State} {m : MethodId} {below : List Frame} {meth : Method} {c : Code} (l : Launch) {b L : Nat} {xs : Nat → Int32} (C0 : lw_At p s m meth c b L xs) (hL : L ≤ 4096) {D : va_G} {E : Nat → ClassId} {G : Nat → Nat} {A : Nat → Prop} (hAe : A = fun q => s.heap.size ≤ q) (hK : va_K D vwCl (oh_ty E) s) (hG : oh_G G A s) {a : Nat → Nat} {i : Nat} (hi : i + 8 ≤ L) {ma : Nat → Nat} {C M : Nat → va_E} {n cN sN : Nat} (hT : TyX a E C) (hTM : TyM ma E M) (hR : RelM M) (hkp : KEPT E n ma M) (ht1 : gi (C 5) 1 = gi (M 0) 7) (ht2 : gi (C 0) 2 = 0 ↔ n = 74) (ht3 : ga (C 32) = ga (M 7)) (htA : ∃ (A0 : LA) (T0 : TP), absX 10 C A0 ∧ absM M A0 ∧ okA A0 ∧ absTX 1 16 C T0 ∧ absTM M T0 ∧ ∃ S0 : HZ, absHX C S0 ∧ absHM M S0 ∧ shN (A0 5 0 1) S0) (htK : TIEK n C M) (hcN : cN ≤ 35 + n) (hsN : sN ≤ 1477 + 16 * n) {H : Heap} {locs : List Loc} (hP : va_P D vwCl (oh_W 35 a C ++ oh_W n ma M) H) (hD : va_D A (oh_W 35 a C ++ oh_W n ma M)) (hS : va_S A s.heap H locs) {ls : Array Slot} (hl : lv_has ls 4 [(3, .int (nI i)), (2, .ref (ma 0)), (1, .ref (a 0)), (0, .ref b)]) (kk : ∀ (ma : Nat → Nat) (C M : Nat → va_E) (n cN sN : Nat) (H : Heap) (locs : List Loc) (ls : Array Slot), TyX a E C → TyM ma E M → RelM M → KEPT E n ma M → gi (C 5) 1 = gi (M 0) 7 → (gi (C 0) 2 = 0 ↔ n = 74) → ga (C 32) = ga (M 7) → (∃ (A0 : LA) (T0 : TP), absX 10 C A0 ∧ absM M A0 ∧ okA A0 ∧ absTX 1 16 C T0 ∧ absTM M T0 ∧ ∃ S0 : HZ, absHX C S0 ∧ absHM M S0 ∧ shN (A0 5 0 1) S0) → TIEK n C M → cN ≤ 35 + n → sN ≤ 1477 + 16 * n → va_P D vwCl (oh_W 35 a C ++ oh_W n ma M) H → va_D A (oh_W 35 a C ++ oh_W n ma M) → va_S A s.heap H locs → lv_has ls 4 [(3, .int (nI i)), (2, .ref (ma 0)), (1, .ref (a 0)), (0, .ref b)] → W p l e room_1 s m #[Value.ref b] below meth c H locs cN sN (lw_Z below #[Value.ref b] s) (F0 m 2045 ls [])) : W p l e room_1 s m #[Value.ref b] below meth c H locs cN sN (lw_Z below #[Value.ref b] s) (F0 m 1960 ls []) := by
  obtain ⟨hx, hb, hr, hml, hown, hts, hX, hbl, hlocks, hgv⟩ := id C0
  have hown : s.vm.findClass RL = some m.cls := hown
  have htg : ∀ w ∈ oh_t, w.before _ s = true := fun w h => hts w (List.mem_filter.mp h).1
  have hA : ∀ q, s.heap.size ≤ q → A q := fun q h => by rw [hAe]; exact h
  have hbA : ¬ A b := by rw [hAe]; exact Nat.not_le.mpr hbl
  have hn := hkp.le.1
  have hn8 := hkp.le.2
  have ht10 := ht1
  have ht20 := ht2
  have ht30 := ht3
  obtain ⟨A0, T0, hAX, hAM, hok, hUX, hUM, S0, hSX, hSM, hSN⟩ := htA
  have hAX0 := hAX
  have hAM0 := hAM
  have htK0 := htK
  have hSX0 := hSX
  have hSM0 := hSM
  have hSN0 := hSN
  have hUX0 := hUX
  have hok0 := hok
  refine lv_aload_n hx hb dL_law_1960 rfl (lv_at hl 2 rfl) ?_
  refine lw_cX (As := []) (rest := []) ⟨hx, hb, hml, hown, htg⟩ (e2_X6_step l D E G _ a C hT) (cwV 0 htg (oh_gV q_912 q_913 q_914 q_66 q_915) rfl rfl rfl pdVX6_step ⟨Nat.le_of_ble_eq_true rfl, Nat.le_of_ble_eq_true rfl⟩) hK hP hD hG hS hA (va_recv hK (oh_pre_P hP) (ci := 6) (q0 := 0) rfl (oh_wg (by decide) (sX_0 hT))) rfl hl.1 rfl (Nat.le_of_ble_eq_true rfl) dL_law_1961 ⟨show cN + 0 ≤ 600000 by omega, show sN + 0 ≤ 7302250 by omega⟩ (fun r_1 C_3 H locs hq_2 hP hD hS => ?_)
  obtain ⟨hT, f_4, hq_2⟩ := hq_2
  have ht1 : gi (C_3 5) 1 = gi (M 0) 7 := by rw [f_4.1 5 rfl (by decide)]; exact ht1
  have ht2 : gi (C_3 0) 2 = 0 ↔ n = 74 := by rw [show gi (C_3 0) 2 = gi (C 0) 2 from congrArg vi (f_4.2 2 (by decide))]; exact ht2
  have ht3 : ga (C_3 32) = ga (M 7) := Eq.trans (congrArg ga (f_4.1 32 rfl (by decide))) ht3
  have htK := htK.x (fr_all f_4 17 23 (by decide)) (f_4.1 2 rfl (by decide))
  obtain ⟨B1, U1, hs_5, hAX, hUX⟩ := hq_2 A0 T0 hAX hok hUX (relT hR hAM hUM)
  have hSX : absHX C_3 S0 := hx_fr hSX (f_4.1 29 rfl (by decide)) (f_4.1 30 rfl (by decide))
  refine W.widen (k := cN) (n := sN) (Nat.le_refl _) (Nat.le_refl _) ?_
  refine lv_pop hx hb dL_law_1964 rfl ?_
  refine lv_aload_n hx hb dL_law_1965 rfl (lv_at hl 1 rfl) ?_
  refine lw_cM (As := []) (rest := []) ⟨hx, hb, hml, hown, htg⟩ (e2_X7_step l D E G _ ma M n hn hTM hR) (cwV 0 htg (oh_gV q_1413 q_1414 q_1415 q_73 q_1416) rfl rfl rfl pdVX7_step ⟨Nat.le_of_ble_eq_true rfl, Nat.le_of_ble_eq_true rfl⟩) hK hP hD hG hS hA (va_recv hK (oh_suf_P hP) (ci := 7) (q0 := 0) rfl (oh_wg (by omega) (sM_0 hTM))) rfl hl.1 rfl (Nat.le_of_ble_eq_true rfl) dL_law_1966 ⟨show cN + 0 ≤ 600000 by omega, show sN + 0 ≤ 7302250 by omega⟩ (fun r_6 M_8 H locs hq_7 hP hD hS => ?_)
  have hTM0 := hTM
  obtain ⟨hTM, f_9, hR, hq_7⟩ := hq_7
  have hkp := kept_fr hkp f_9 (by decide)
  have ht1 : gi (C_3 5) 1 = gi (M_8 0) 7 := by rw [show gi (M_8 0) 7 = gi (M 0) 7 from congrArg vi (f_9.2 7 (by decide))]; exact ht1
  have ht3 : ga (C_3 32) = ga (M_8 7) := Eq.trans ht3 (congrArg ga (f_9.1 7 rfl (by decide))).symm
  have htK := htK.m f_9 (by decide)
  obtain ⟨B2, U2, hs_10, hAM, hUM⟩ := hq_7 A0 T0 hAM hok hUM
  obtain ⟨hB_11, hBB, hUU⟩ := stpA_u hok hs_5 hs_10
  subst hBB hUU
  have hok := ok_step hok hs_5
  have hSN := sn_up2 hok hSN (by exact cn_step hs_5)
  have hSM : absHM M_8 S0 := hm_fr hSM (f_9.1 1 rfl (by decide)) (f_9.1 2 rfl (by decide)) (f_9.1 3 rfl (by decide)) (f_9.1 6 rfl (by decide))
  refine W.widen (k := cN) (n := sN) (Nat.le_refl _) (Nat.le_refl _) ?_
  refine lv_pop hx hb dL_law_1969 rfl ?_
  refine lv_goto (tgt := 2045) hx hb dL_law_1970 (by decide) ?_
  exact kk ma C_3 M_8 n (cN) (sN) H locs ls hT hTM hR hkp ht1 ht2 ht3 ⟨_, _, hAX, hAM, hok, hUX, hUM, _, hSX, hSM, hSN⟩ htK (by omega) (by omega) hP hD hS hl

set_option maxHeartbeats 4000000 in
set_option maxRecDepth 100000 in
/-- the law at a call of under -/
theorem lc_under {p : Program} {e : Env} {s : State} {m : MethodId} {below : List Frame} {meth : Method} {c : Code} (l : Launch) {b L : Nat} {xs : Nat → Int32} (C0 : lw_At p s m meth c b L xs) (hL : L ≤ 4096) {D : va_G} {E : Nat → ClassId} {G : Nat → Nat} {A : Nat → Prop} (hAe : A = fun q => s.heap.size ≤ q) (hK : va_K D vwCl (oh_ty E) s) (hG : oh_G G A s) {a : Nat → Nat} {i : Nat} (hi : i + 8 ≤ L) {ma : Nat → Nat} {C M : Nat → va_E} {n cN sN : Nat} (hT : TyX a E C) (hTM : TyM ma E M) (hR : RelM M) (hkp : KEPT E n ma M) (ht1 : gi (C 5) 1 = gi (M 0) 7) (ht2 : gi (C 0) 2 = 0 ↔ n = 74) (ht3 : ga (C 32) = ga (M 7)) (htA : ∃ (A0 : LA) (T0 : TP), absX 10 C A0 ∧ absM M A0 ∧ okA A0 ∧ absTX 1 16 C T0 ∧ absTM M T0 ∧ ∃ S0 : HZ, absHX C S0 ∧ absHM M S0 ∧ shN (A0 5 0 1) S0) (htK : TIEK n C M) (hcN : cN ≤ 35 + n) (hsN : sN ≤ 1477 + 16 * n) {H : Heap} {locs : List Loc} (hP : va_P D vwCl (oh_W 35 a C ++ oh_W n ma M) H) (hD : va_D A (oh_W 35 a C ++ oh_W n ma M)) (hS : va_S A s.heap H locs) {ls : Array Slot} (hl : lv_has ls 4 [(3, .int (nI i)), (2, .ref (ma 0)), (1, .ref (a 0)), (0, .ref b)]) (kk : ∀ (ma : Nat → Nat) (C M : Nat → va_E) (n cN sN : Nat) (H : Heap) (locs : List Loc) (ls : Array Slot), TyX a E C → TyM ma E M → RelM M → KEPT E n ma M → gi (C 5) 1 = gi (M 0) 7 → (gi (C 0) 2 = 0 ↔ n = 74) → ga (C 32) = ga (M 7) → (∃ (A0 : LA) (T0 : TP), absX 10 C A0 ∧ absM M A0 ∧ okA A0 ∧ absTX 1 16 C T0 ∧ absTM M T0 ∧ ∃ S0 : HZ, absHX C S0 ∧ absHM M S0 ∧ shN (A0 5 0 1) S0) → TIEK n C M → cN ≤ 35 + n → sN ≤ 1477 + 16 * n → va_P D vwCl (oh_W 35 a C ++ oh_W n ma M) H → va_D A (oh_W 35 a C ++ oh_W n ma M) → va_S A s.heap H locs → lv_has ls 4 [(3, .int (nI i)), (2, .ref (ma 0)), (1, .ref (a 0)), (0, .ref b)] → W p l e room_1 s m #[Value.ref b] below meth c H locs cN sN (lw_Z below #[Value.ref b] s) (F0 m 2045 ls [])) : W p l e room_1 s m #[Value.ref b] below meth c H locs cN sN (lw_Z below #[Value.ref b] s) (F0 m 1973 ls []) := by
  obtain ⟨hx, hb, hr, hml, hown, hts, hX, hbl, hlocks, hgv⟩ := id C0
  have hown : s.vm.findClass RL = some m.cls := hown
  have htg : ∀ w ∈ oh_t, w.before _ s = true := fun w h => hts w (List.mem_filter.mp h).1
  have hA : ∀ q, s.heap.size ≤ q → A q := fun q h => by rw [hAe]; exact h
  have hbA : ¬ A b := by rw [hAe]; exact Nat.not_le.mpr hbl
  have hn := hkp.le.1
  have hn8 := hkp.le.2
  have ht10 := ht1
  have ht20 := ht2
  have ht30 := ht3
  obtain ⟨A0, T0, hAX, hAM, hok, hUX, hUM, S0, hSX, hSM, hSN⟩ := htA
  have hAX0 := hAX
  have hAM0 := hAM
  have htK0 := htK
  have hSX0 := hSX
  have hSM0 := hSM
  have hSN0 := hSN
  have hUX0 := hUX
  have hok0 := hok
  refine lv_aload_n hx hb dL_law_1973 rfl (lv_at hl 2 rfl) ?_
  refine lv_aload_n hx hb dL_law_1974 rfl (lv_at hl 3 rfl) ?_
  refine lv_iload_n hx hb dL_law_1975 rfl (lv_at hl 0 rfl) ?_
  refine lv_iconst (v := 1) hx hb dL_law_1976 (by decide) ?_
  refine lv_iadd hx hb dL_law_1977 ?_
  refine va_sld hx hb hX hbl hbA hS (lw_ix hi hL (rg_c (v := 1) (lo := 1) (hi := 1) (by decide)) (by decide)) dL_law_1978 ?_
  refine lw_cX (As := [.int (xs ((nI i) + 1).toNatClampNeg)]) (rest := []) ⟨hx, hb, hml, hown, htg⟩ (e_X6_under l D E G _ a C hT (xs ((nI i) + 1).toNatClampNeg)) (cwV 1 htg (oh_gV q_929 q_930 q_931 q_66 q_932) rfl rfl rfl pdVX6_under ⟨Nat.le_of_ble_eq_true rfl, Nat.le_of_ble_eq_true rfl⟩) hK hP hD hG hS hA (va_recv hK (oh_pre_P hP) (ci := 6) (q0 := 0) rfl (oh_wg (by decide) (sX_0 hT))) rfl hl.1 rfl (Nat.le_of_ble_eq_true rfl) dL_law_1979 ⟨show cN + 0 ≤ 600000 by omega, show sN + 0 ≤ 7302250 by omega⟩ (fun r_1 C_3 H locs hq_2 hP hD hS => ?_)
  obtain ⟨hT, f_4, hq_2⟩ := hq_2
  have ht1 : gi (C_3 5) 1 = gi (M 0) 7 := by rw [f_4.1 5 rfl (by decide)]; exact ht1
  have ht2 : gi (C_3 0) 2 = 0 ↔ n = 74 := by rw [show gi (C_3 0) 2 = gi (C 0) 2 from congrArg vi (f_4.2 2 (by decide))]; exact ht2
  have ht3 : ga (C_3 32) = ga (M 7) := Eq.trans (congrArg ga (f_4.1 32 rfl (by decide))) ht3
  have htK := htK.x (fr_all f_4 17 23 (by decide)) (f_4.1 2 rfl (by decide))
  have hX_5 := hq_2 T0 hUX
  have hAX : absX 10 C_3 A0 := absX_eq hAX (fun k k1 k2 => fr_all f_4 10 15 (by decide) k k1 (by omega))
  have hUX : absTX 1 16 C_3 T0 := absTX_eq hUX (congrArg (fun z => gi z 7) (f_4.1 1 rfl (by decide))) (f_4.1 16 rfl (by decide))
  have hSX : absHX C_3 S0 := hx_fr hSX (f_4.1 29 rfl (by decide)) (f_4.1 30 rfl (by decide))
  refine W.widen (k := cN) (n := sN) (Nat.le_refl _) (Nat.le_refl _) ?_
  refine lv_pop hx hb dL_law_1982 rfl ?_
  refine lv_aload_n hx hb dL_law_1983 rfl (lv_at hl 1 rfl) ?_
  refine lv_aload_n hx hb dL_law_1984 rfl (lv_at hl 3 rfl) ?_
  refine lv_iload_n hx hb dL_law_1985 rfl (lv_at hl 0 rfl) ?_
  refine lv_iconst (v := 1) hx hb dL_law_1986 (by decide) ?_
  refine lv_iadd hx hb dL_law_1987 ?_
  refine va_sld hx hb hX hbl hbA hS (lw_ix hi hL (rg_c (v := 1) (lo := 1) (hi := 1) (by decide)) (by decide)) dL_law_1988 ?_
  refine lw_cM (As := [.int (xs ((nI i) + 1).toNatClampNeg)]) (rest := []) ⟨hx, hb, hml, hown, htg⟩ (e_X7_under l D E G _ ma M n hn hTM (xs ((nI i) + 1).toNatClampNeg) hR) (cwV 1 htg (oh_gV q_1417 q_1418 q_1419 q_73 q_1420) rfl rfl rfl pdVX7_under ⟨Nat.le_of_ble_eq_true rfl, Nat.le_of_ble_eq_true rfl⟩) hK hP hD hG hS hA (va_recv hK (oh_suf_P hP) (ci := 7) (q0 := 0) rfl (oh_wg (by omega) (sM_0 hTM))) rfl hl.1 rfl (Nat.le_of_ble_eq_true rfl) dL_law_1989 ⟨show cN + 0 ≤ 600000 by omega, show sN + 0 ≤ 7302250 by omega⟩ (fun r_6 M_8 H locs hq_7 hP hD hS => ?_)
  have hTM0 := hTM
  obtain ⟨hTM, f_9, hR, hq_7⟩ := hq_7
  have hkp := kept_fr hkp f_9 (by decide)
  have ht1 : gi (C_3 5) 1 = gi (M_8 0) 7 := by rw [show gi (M_8 0) 7 = gi (M 0) 7 from congrArg vi (f_9.2 7 (by decide))]; exact ht1
  have ht3 : ga (C_3 32) = ga (M_8 7) := Eq.trans ht3 (congrArg ga (f_9.1 7 rfl (by decide))).symm
  have htK := htK.m f_9 (by decide)
  have hM_10 := hq_7 T0 hUM
  have hAM : absM M_8 A0 := absM_fr hAM hTM0 f_9 (by decide) (by decide) (by decide)
  have hUM : absTM M_8 T0 := absTM_eq hUM (f_9.1 14 rfl (by decide)) (congrArg vi (f_9.2 19 (by decide)))
  have hSM : absHM M_8 S0 := hm_fr hSM (f_9.1 1 rfl (by decide)) (f_9.1 2 rfl (by decide)) (f_9.1 3 rfl (by decide)) (f_9.1 6 rfl (by decide))
  refine W.widen (k := cN) (n := sN) (Nat.le_refl _) (Nat.le_refl _) ?_
  refine lv_pop hx hb dL_law_1992 rfl ?_
  refine lv_goto (tgt := 2045) hx hb dL_law_1993 (by decide) ?_
  exact kk ma C_3 M_8 n (cN) (sN) H locs ls hT hTM hR hkp ht1 ht2 ht3 ⟨_, _, hAX, hAM, hok, hUX, hUM, _, hSX, hSM, hSN⟩ htK (by omega) (by omega) hP hD hS hl

set_option maxHeartbeats 4000000 in
set_option maxRecDepth 100000 in
/-- the law at a call of image -/
theorem lc_image {p : Program} {e : Env} {s : State} {m : MethodId} {below : List Frame} {meth : Method} {c : Code} (l : Launch) {b L : Nat} {xs : Nat → Int32} (C0 : lw_At p s m meth c b L xs) (hL : L ≤ 4096) {D : va_G} {E : Nat → ClassId} {G : Nat → Nat} {A : Nat → Prop} (hAe : A = fun q => s.heap.size ≤ q) (hK : va_K D vwCl (oh_ty E) s) (hG : oh_G G A s) {a : Nat → Nat} {i : Nat} (hi : i + 8 ≤ L) {ma : Nat → Nat} {C M : Nat → va_E} {n cN sN : Nat} (hT : TyX a E C) (hTM : TyM ma E M) (hR : RelM M) (hkp : KEPT E n ma M) (ht1 : gi (C 5) 1 = gi (M 0) 7) (ht2 : gi (C 0) 2 = 0 ↔ n = 74) (ht3 : ga (C 32) = ga (M 7)) (htA : ∃ (A0 : LA) (T0 : TP), absX 10 C A0 ∧ absM M A0 ∧ okA A0 ∧ absTX 1 16 C T0 ∧ absTM M T0 ∧ ∃ S0 : HZ, absHX C S0 ∧ absHM M S0 ∧ shN (A0 5 0 1) S0) (htK : TIEK n C M) (hcN : cN ≤ 35 + n) (hsN : sN ≤ 1477 + 16 * n) {H : Heap} {locs : List Loc} (hP : va_P D vwCl (oh_W 35 a C ++ oh_W n ma M) H) (hD : va_D A (oh_W 35 a C ++ oh_W n ma M)) (hS : va_S A s.heap H locs) {ls : Array Slot} (hl : lv_has ls 4 [(3, .int (nI i)), (2, .ref (ma 0)), (1, .ref (a 0)), (0, .ref b)]) (kk : ∀ (ma : Nat → Nat) (C M : Nat → va_E) (n cN sN : Nat) (H : Heap) (locs : List Loc) (ls : Array Slot), TyX a E C → TyM ma E M → RelM M → KEPT E n ma M → gi (C 5) 1 = gi (M 0) 7 → (gi (C 0) 2 = 0 ↔ n = 74) → ga (C 32) = ga (M 7) → (∃ (A0 : LA) (T0 : TP), absX 10 C A0 ∧ absM M A0 ∧ okA A0 ∧ absTX 1 16 C T0 ∧ absTM M T0 ∧ ∃ S0 : HZ, absHX C S0 ∧ absHM M S0 ∧ shN (A0 5 0 1) S0) → TIEK n C M → cN ≤ 35 + n → sN ≤ 1477 + 16 * n → va_P D vwCl (oh_W 35 a C ++ oh_W n ma M) H → va_D A (oh_W 35 a C ++ oh_W n ma M) → va_S A s.heap H locs → lv_has ls 4 [(3, .int (nI i)), (2, .ref (ma 0)), (1, .ref (a 0)), (0, .ref b)] → W p l e room_1 s m #[Value.ref b] below meth c H locs cN sN (lw_Z below #[Value.ref b] s) (F0 m 2045 ls [])) : W p l e room_1 s m #[Value.ref b] below meth c H locs cN sN (lw_Z below #[Value.ref b] s) (F0 m 1996 ls []) := by
  obtain ⟨hx, hb, hr, hml, hown, hts, hX, hbl, hlocks, hgv⟩ := id C0
  have hown : s.vm.findClass RL = some m.cls := hown
  have htg : ∀ w ∈ oh_t, w.before _ s = true := fun w h => hts w (List.mem_filter.mp h).1
  have hA : ∀ q, s.heap.size ≤ q → A q := fun q h => by rw [hAe]; exact h
  have hbA : ¬ A b := by rw [hAe]; exact Nat.not_le.mpr hbl
  have hn := hkp.le.1
  have hn8 := hkp.le.2
  have ht10 := ht1
  have ht20 := ht2
  have ht30 := ht3
  obtain ⟨A0, T0, hAX, hAM, hok, hUX, hUM, S0, hSX, hSM, hSN⟩ := htA
  have hAX0 := hAX
  have hAM0 := hAM
  have htK0 := htK
  have hSX0 := hSX
  have hSM0 := hSM
  have hSN0 := hSN
  have hUX0 := hUX
  have hok0 := hok
  refine lv_aload_n hx hb dL_law_1996 rfl (lv_at hl 2 rfl) ?_
  refine lw_cX (As := []) (rest := []) ⟨hx, hb, hml, hown, htg⟩ (e2_X6_image l D E G _ a C hT) (cwV 0 htg (oh_gV q_933 q_934 q_935 q_66 q_936) rfl rfl rfl pdVX6_image ⟨Nat.le_of_ble_eq_true rfl, Nat.le_of_ble_eq_true rfl⟩) hK hP hD hG hS hA (va_recv hK (oh_pre_P hP) (ci := 6) (q0 := 0) rfl (oh_wg (by decide) (sX_0 hT))) rfl hl.1 rfl (Nat.le_of_ble_eq_true rfl) dL_law_1997 ⟨show cN + 0 ≤ 600000 by omega, show sN + 0 ≤ 7302250 by omega⟩ (fun r_1 C_3 H locs hq_2 hP hD hS => ?_)
  obtain ⟨hT, f_4, hq_2⟩ := hq_2
  have ht1 : gi (C_3 5) 1 = gi (M 0) 7 := by rw [f_4.1 5 rfl (by decide)]; exact ht1
  have ht3 : ga (C_3 32) = ga (M 7) := Eq.trans (congrArg ga (f_4.1 32 rfl (by decide))) ht3
  have hAX : absX 10 C_3 A0 := absX_eq hAX (fun k k1 k2 => fr_all f_4 10 15 (by decide) k k1 (by omega))
  have hUX : absTX 1 16 C_3 T0 := absTX_eq hUX (congrArg (fun z => gi z 7) (f_4.1 1 rfl (by decide))) (f_4.1 16 rfl (by decide))
  have hSX : absHX C_3 S0 := hx_fr hSX (f_4.1 29 rfl (by decide)) (f_4.1 30 rfl (by decide))
  refine W.widen (k := cN) (n := sN) (Nat.le_refl _) (Nat.le_refl _) ?_
  refine lv_pop hx hb dL_law_2000 rfl ?_
  refine lv_aload_n hx hb dL_law_2001 rfl (lv_at hl 1 rfl) ?_
  have hTM0 := hTM
  rcases hkp with ⟨en, hkn⟩ | ⟨en, hkr, hTk, hRk⟩
  · subst en
    refine lw_cM (As := []) (rest := []) ⟨hx, hb, hml, hown, htg⟩ (c_X7_image_n l D E G _ ma M hTM hR hkn) (cwV 0 htg (oh_gV q_1421 q_1422 q_1423 q_73 q_1424) rfl rfl rfl pdVX7_image ⟨Nat.le_of_ble_eq_true rfl, Nat.le_of_ble_eq_true rfl⟩) hK hP hD hG hS hA (va_recv hK (oh_suf_P hP) (ci := 7) (q0 := 0) rfl (oh_wg (by omega) (sM_0 hTM))) rfl hl.1 rfl (Nat.le_of_ble_eq_true rfl) dL_law_2002 ⟨show cN + 74 ≤ 600000 by omega, show sN + 1116 ≤ 7302250 by omega⟩ (fun r_5 u_7 H locs hq_6 hP hD hS => ?_)
    obtain ⟨ma2, M2⟩ := u_7
    obtain ⟨ea2, hTM, hR, hk20, hTk, hRk, h7, hcA, hcF, hcK, hcT, hq_6⟩ := hq_6
    have ht3 : ga (C_3 32) = ga (M2 7) := Eq.trans ht3 (congrArg ga (hcA 7 (by decide) (by decide))).symm
    have htK : TIEK 148 C_3 M2 := Or.inr ⟨A0, T0, hq_2.2.1 A0 hAX0, hcK A0 hAM, hok, hq_2.2.2 T0 hUX0, hcT T0 hUM⟩
    have hUM : absTM M2 T0 := absTM_eq hUM (hcA 14 (by decide) (by decide)) (congrArg vi (hcF 19 (by decide)))
    have hAM : absM M2 A0 := absM_n hAM hTM0 hcA hcF
    have hSM : absHM M2 S0 := hm_fr hSM (hcA 1 (by decide) (by decide)) (hcA 2 (by decide) (by decide)) (hcA 3 (by decide) (by decide)) (hcA 6 (by decide) (by decide))
    have hkp : KEPT E 148 ma2 M2 := Or.inr ⟨rfl, hk20, hTk, hRk⟩
    refine W.widen (k := cN + 74) (n := sN + 1116) (Nat.le_refl _) (Nat.le_refl _) ?_
    have em : ma 0 = ma2 0 := (ea2 0 (by decide)).symm
    rw [em] at hl
    have ht1 : gi (C_3 5) 1 = gi (M2 0) 7 := Eq.trans ht1 h7.symm
    have ht2 : gi (C_3 0) 2 = 0 ↔ 148 = 74 := ⟨fun h9 => absurd (Eq.trans h9.symm hq_2.1.2) (by decide), fun h9 => absurd h9 (by decide)⟩
    refine lv_pop hx hb dL_law_2005 rfl ?_
    refine lv_goto (tgt := 2045) hx hb dL_law_2006 (by decide) ?_
    exact kk ma2 C_3 M2 148 (cN + 74) (sN + 1116) H locs ls hT hTM hR hkp ht1 ht2 ht3 ⟨_, _, hAX, hAM, hok, hUX, hUM, _, hSX, hSM, hSN⟩ htK (by omega) (by omega) hP hD hS hl
  · have hkr0 := hkr
    refine lw_cM (As := []) (rest := []) ⟨hx, hb, hml, hown, htg⟩ (c_X7_image_k l D E G _ ma M n (by omega) hTM hR hkr hTk) (cwV 0 htg (oh_gV q_1421 q_1422 q_1423 q_73 q_1424) rfl rfl rfl pdVX7_image ⟨Nat.le_of_ble_eq_true rfl, Nat.le_of_ble_eq_true rfl⟩) hK hP hD hG hS hA (va_recv hK (oh_suf_P hP) (ci := 7) (q0 := 0) rfl (oh_wg (by omega) (sM_0 hTM))) rfl hl.1 rfl (Nat.le_of_ble_eq_true rfl) dL_law_2002 ⟨show cN + 0 ≤ 600000 by omega, show sN + 0 ≤ 7302250 by omega⟩ (fun r_8 M_10 H locs hq_9 hP hD hS => ?_)
    obtain ⟨hTM, hR, hcc, hTk, hRk, hcK, hcT, hq_9⟩ := hq_9
    have ht3 : ga (C_3 32) = ga (M_10 7) := Eq.trans ht3 (congrArg ga (hcc 7 (by decide))).symm
    have htK : TIEK n C_3 M_10 := Or.inr ⟨A0, T0, hq_2.2.1 A0 hAX0, hcK A0 hAM, hok, hq_2.2.2 T0 hUX0, hcT T0 hUM⟩
    have hUM : absTM M_10 T0 := absTM_eq hUM (hcc 14 (by decide)) (congrArg (fun z => gi z 19) (hcc 0 (by decide)))
    have hSM : absHM M_10 S0 := hm_fr hSM (hcc 1 (by decide)) (hcc 2 (by decide)) (hcc 3 (by decide)) (hcc 6 (by decide))
    have hAM : absM M_10 A0 := absM_74 hAM hTM0 hcc
    have hkp : KEPT E n ma M_10 := Or.inr ⟨en, (by rw [hcc 0 (by decide)]; exact hkr0), hTk, hRk⟩
    have ht1 : gi (C_3 5) 1 = gi (M_10 0) 7 := by rw [hcc 0 (by decide)]; exact ht1
    have ht2 : gi (C_3 0) 2 = 0 ↔ n = 74 := ⟨fun h9 => absurd (Eq.trans h9.symm hq_2.1.2) (by decide), fun h9 => absurd (Eq.trans en.symm h9) (by decide)⟩
    refine W.widen (k := cN) (n := sN) (Nat.le_refl _) (Nat.le_refl _) ?_
    refine lv_pop hx hb dL_law_2005 rfl ?_
    refine lv_goto (tgt := 2045) hx hb dL_law_2006 (by decide) ?_
    exact kk ma C_3 M_10 n (cN) (sN) H locs ls hT hTM hR hkp ht1 ht2 ht3 ⟨_, _, hAX, hAM, hok, hUX, hUM, _, hSX, hSM, hSN⟩ htK (by omega) (by omega) hP hD hS hl

set_option maxHeartbeats 4000000 in
set_option maxRecDepth 100000 in
/-- the law at a call of back -/
theorem lc_back {p : Program} {e : Env} {s : State} {m : MethodId} {below : List Frame} {meth : Method} {c : Code} (l : Launch) {b L : Nat} {xs : Nat → Int32} (C0 : lw_At p s m meth c b L xs) (hL : L ≤ 4096) {D : va_G} {E : Nat → ClassId} {G : Nat → Nat} {A : Nat → Prop} (hAe : A = fun q => s.heap.size ≤ q) (hK : va_K D vwCl (oh_ty E) s) (hG : oh_G G A s) {a : Nat → Nat} {i : Nat} (hi : i + 8 ≤ L) {ma : Nat → Nat} {C M : Nat → va_E} {n cN sN : Nat} (hT : TyX a E C) (hTM : TyM ma E M) (hR : RelM M) (hkp : KEPT E n ma M) (ht1 : gi (C 5) 1 = gi (M 0) 7) (ht2 : gi (C 0) 2 = 0 ↔ n = 74) (ht3 : ga (C 32) = ga (M 7)) (htA : ∃ (A0 : LA) (T0 : TP), absX 10 C A0 ∧ absM M A0 ∧ okA A0 ∧ absTX 1 16 C T0 ∧ absTM M T0 ∧ ∃ S0 : HZ, absHX C S0 ∧ absHM M S0 ∧ shN (A0 5 0 1) S0) (htK : TIEK n C M) (hcN : cN ≤ 35 + n) (hsN : sN ≤ 1477 + 16 * n) {H : Heap} {locs : List Loc} (hP : va_P D vwCl (oh_W 35 a C ++ oh_W n ma M) H) (hD : va_D A (oh_W 35 a C ++ oh_W n ma M)) (hS : va_S A s.heap H locs) {ls : Array Slot} (hl : lv_has ls 4 [(3, .int (nI i)), (2, .ref (ma 0)), (1, .ref (a 0)), (0, .ref b)]) (kk : ∀ (ma : Nat → Nat) (C M : Nat → va_E) (n cN sN : Nat) (H : Heap) (locs : List Loc) (ls : Array Slot), TyX a E C → TyM ma E M → RelM M → KEPT E n ma M → gi (C 5) 1 = gi (M 0) 7 → (gi (C 0) 2 = 0 ↔ n = 74) → ga (C 32) = ga (M 7) → (∃ (A0 : LA) (T0 : TP), absX 10 C A0 ∧ absM M A0 ∧ okA A0 ∧ absTX 1 16 C T0 ∧ absTM M T0 ∧ ∃ S0 : HZ, absHX C S0 ∧ absHM M S0 ∧ shN (A0 5 0 1) S0) → TIEK n C M → cN ≤ 35 + n → sN ≤ 1477 + 16 * n → va_P D vwCl (oh_W 35 a C ++ oh_W n ma M) H → va_D A (oh_W 35 a C ++ oh_W n ma M) → va_S A s.heap H locs → lv_has ls 4 [(3, .int (nI i)), (2, .ref (ma 0)), (1, .ref (a 0)), (0, .ref b)] → W p l e room_1 s m #[Value.ref b] below meth c H locs cN sN (lw_Z below #[Value.ref b] s) (F0 m 2045 ls [])) : W p l e room_1 s m #[Value.ref b] below meth c H locs cN sN (lw_Z below #[Value.ref b] s) (F0 m 2009 ls []) := by
  obtain ⟨hx, hb, hr, hml, hown, hts, hX, hbl, hlocks, hgv⟩ := id C0
  have hown : s.vm.findClass RL = some m.cls := hown
  have htg : ∀ w ∈ oh_t, w.before _ s = true := fun w h => hts w (List.mem_filter.mp h).1
  have hA : ∀ q, s.heap.size ≤ q → A q := fun q h => by rw [hAe]; exact h
  have hbA : ¬ A b := by rw [hAe]; exact Nat.not_le.mpr hbl
  have hn := hkp.le.1
  have hn8 := hkp.le.2
  have ht10 := ht1
  have ht20 := ht2
  have ht30 := ht3
  obtain ⟨A0, T0, hAX, hAM, hok, hUX, hUM, S0, hSX, hSM, hSN⟩ := htA
  have hAX0 := hAX
  have hAM0 := hAM
  have htK0 := htK
  have hSX0 := hSX
  have hSM0 := hSM
  have hSN0 := hSN
  have hUX0 := hUX
  have hok0 := hok
  refine lv_aload_n hx hb dL_law_2009 rfl (lv_at hl 2 rfl) ?_
  refine lw_cX (As := []) (rest := []) ⟨hx, hb, hml, hown, htg⟩ (e4_X6_back l D E G _ a C hT) (cwV 0 htg (oh_gV q_942 q_943 q_944 q_66 q_945) rfl rfl rfl pdVX6_back ⟨Nat.le_of_ble_eq_true rfl, Nat.le_of_ble_eq_true rfl⟩) hK hP hD hG hS hA (va_recv hK (oh_pre_P hP) (ci := 6) (q0 := 0) rfl (oh_wg (by decide) (sX_0 hT))) rfl hl.1 rfl (Nat.le_of_ble_eq_true rfl) dL_law_2010 ⟨show cN + 0 ≤ 600000 by omega, show sN + 0 ≤ 7302250 by omega⟩ (fun r_1 C_3 H locs hq_2 hP hD hS => ?_)
  obtain ⟨hT, f_4, hq_2⟩ := hq_2
  have ht1 : gi (C_3 5) 1 = gi (M 0) 7 := by rw [f_4.1 5 rfl (by decide)]; exact ht1
  have ht2 : gi (C_3 0) 2 = 0 ↔ n = 74 := by rw [show gi (C_3 0) 2 = gi (C 0) 2 from congrArg vi (f_4.2 2 (by decide))]; exact ht2
  have ht3 : ga (C_3 32) = ga (M 7) := Eq.trans (congrArg ga (f_4.1 32 rfl (by decide))) ht3
  have htK := htK.x (fr_all f_4 17 23 (by decide)) (f_4.1 2 rfl (by decide))
  refine W.widen (k := cN) (n := sN) (Nat.le_refl _) (Nat.le_refl _) ?_
  refine lv_pop hx hb dL_law_2013 rfl ?_
  refine lv_aload_n hx hb dL_law_2014 rfl (lv_at hl 1 rfl) ?_
  have hTM0 := hTM
  rcases hkp with ⟨en, hkn⟩ | ⟨en, hkr, hTk, hRk⟩
  · refine lw_cM (As := []) (rest := []) ⟨hx, hb, hml, hown, htg⟩ (c_X7_back_n l D E G _ ma M n hn hTM hR hkn) (cwV 0 htg (oh_gV q_1437 q_1438 q_1439 q_73 q_1440) rfl rfl rfl pdVX7_back ⟨Nat.le_of_ble_eq_true rfl, Nat.le_of_ble_eq_true rfl⟩) hK hP hD hG hS hA (va_recv hK (oh_suf_P hP) (ci := 7) (q0 := 0) rfl (oh_wg (by omega) (sM_0 hTM))) rfl hl.1 rfl (Nat.le_of_ble_eq_true rfl) dL_law_2015 ⟨show cN + 0 ≤ 600000 by omega, show sN + 0 ≤ 7302250 by omega⟩ (fun r_5 M_7 H locs hq_6 hP hD hS => ?_)
    obtain ⟨hTM, f_8, hR, hq_6⟩ := hq_6
    have hkp : KEPT E n ma M_7 := kept_fr (Or.inl ⟨en, hkn⟩) f_8 (by decide)
    refine W.widen (k := cN) (n := sN) (Nat.le_refl _) (Nat.le_refl _) ?_
    have ht1 : gi (C_3 5) 1 = gi (M_7 0) 7 := by rw [show gi (M_7 0) 7 = gi (M 0) 7 from congrArg vi (f_8.2 7 (by decide))]; exact ht1
    have ht3 : ga (C_3 32) = ga (M_7 7) := Eq.trans ht3 (congrArg ga (f_8.1 7 rfl (by decide))).symm
    have htK := htK.m f_8 (by decide)
    have hAM : absM M_7 A0 := absM_fr hAM hTM0 f_8 (by decide) (by decide) (by decide)
    have hAX : absX 10 C_3 A0 := absX_eq hAX (fun k k1 k2 => hq_2.2.1.2 (by rw [hq_2.1, if_pos (ht20.mpr en)]; decide) k k1 (by omega))
    have hUM : absTM M_7 T0 := absTM_eq hUM (f_8.1 14 rfl (by decide)) (congrArg vi (f_8.2 19 (by decide)))
    have hUX : absTX 1 16 C_3 T0 := hq_2.2.2.1.2 (by rw [hq_2.1, if_pos (ht20.mpr en)]; decide) T0 hUX
    have hSM : absHM M_7 S0 := hm_fr hSM (f_8.1 1 rfl (by decide)) (f_8.1 2 rfl (by decide)) (f_8.1 3 rfl (by decide)) (f_8.1 6 rfl (by decide))
    have hSX : absHX C_3 S0 := hq_2.2.2.2.2 (by rw [hq_2.1, if_pos (ht20.mpr en)]; decide) S0 hSX
    refine lv_pop hx hb dL_law_2018 rfl ?_
    refine lv_goto (tgt := 2045) hx hb dL_law_2019 (by decide) ?_
    exact kk ma C_3 M_7 n (cN) (sN) H locs ls hT hTM hR hkp ht1 ht2 ht3 ⟨_, _, hAX, hAM, hok, hUX, hUM, _, hSX, hSM, hSN⟩ htK (by omega) (by omega) hP hD hS hl
  · refine lw_cM (As := []) (rest := []) ⟨hx, hb, hml, hown, htg⟩ (c_X7_back_k l D E G _ ma M n hn hTM hR hkr (by omega) hTk hRk) (cwV 0 htg (oh_gV q_1437 q_1438 q_1439 q_73 q_1440) rfl rfl rfl pdVX7_back ⟨Nat.le_of_ble_eq_true rfl, Nat.le_of_ble_eq_true rfl⟩) hK hP hD hG hS hA (va_recv hK (oh_suf_P hP) (ci := 7) (q0 := 0) rfl (oh_wg (by omega) (sM_0 hTM))) rfl hl.1 rfl (Nat.le_of_ble_eq_true rfl) dL_law_2015 ⟨show cN + 0 ≤ 600000 by omega, show sN + 0 ≤ 7302250 by omega⟩ (fun r_9 M_11 H locs hq_10 hP hD hS => ?_)
    obtain ⟨hTM, f_12, hR, hq_10⟩ := hq_10
    have ht1 : gi (C_3 5) 1 = gi (M_11 0) 7 := by rw [show gi (M_11 0) 7 = gi (M 0) 7 from congrArg vi (f_12.2 7 (by decide))]; exact ht1
    have hkp : KEPT E n ma M_11 := kept_fr (Or.inr ⟨en, hkr, hTk, hRk⟩) f_12 (by decide)
    have ht3 : ga (C_3 32) = ga (M_11 7) := Eq.trans ht3 (congrArg ga (f_12.1 7 rfl (by decide))).symm
    obtain ⟨AJ, TJ, hJX, hJM, hok, hJT, hJU⟩ := htK0.k (by rw [en]; decide)
    have hAX : absX 10 C_3 AJ := hq_2.2.1.1 (by rw [hq_2.1, if_neg (fun h9 => absurd (Eq.trans en.symm (ht20.mp h9)) (by decide))]) AJ hJX
    have hAM : absM M_11 AJ := hq_10.2.2.1 AJ hJM
    have hUM : absTM M_11 TJ := hq_10.2.2.2 TJ hJU
    have hUX : absTX 1 16 C_3 TJ := hq_2.2.2.1.1 (by rw [hq_2.1, if_neg (fun h9 => absurd (Eq.trans en.symm (ht20.mp h9)) (by decide))]) TJ hJT
    have hSM := hq_10.2.1 AJ hJM S0 hSM
    have hSX := hq_2.2.2.2.1 (by rw [hq_2.1, if_neg (fun h9 => absurd (Eq.trans en.symm (ht20.mp h9)) (by decide))]) AJ hJX S0 hSX
    have hSN : shN (AJ 5 0 1) (spDr S0 (AJ 5 0 1) 8) := sn_dr hok.1.2.1
    have htK := htK.m f_12 (by decide)
    refine W.widen (k := cN) (n := sN) (Nat.le_refl _) (Nat.le_refl _) ?_
    refine lv_pop hx hb dL_law_2018 rfl ?_
    refine lv_goto (tgt := 2045) hx hb dL_law_2019 (by decide) ?_
    exact kk ma C_3 M_11 n (cN) (sN) H locs ls hT hTM hR hkp ht1 ht2 ht3 ⟨_, _, hAX, hAM, hok, hUX, hUM, _, hSX, hSM, hSN⟩ htK (by omega) (by omega) hP hD hS hl

set_option maxHeartbeats 4000000 in
set_option maxRecDepth 100000 in
/-- the law at a call of status -/
theorem lc_status {p : Program} {e : Env} {s : State} {m : MethodId} {below : List Frame} {meth : Method} {c : Code} (l : Launch) {b L : Nat} {xs : Nat → Int32} (C0 : lw_At p s m meth c b L xs) (hL : L ≤ 4096) {D : va_G} {E : Nat → ClassId} {G : Nat → Nat} {A : Nat → Prop} (hAe : A = fun q => s.heap.size ≤ q) (hK : va_K D vwCl (oh_ty E) s) (hG : oh_G G A s) {a : Nat → Nat} {i : Nat} (hi : i + 8 ≤ L) {ma : Nat → Nat} {C M : Nat → va_E} {n cN sN : Nat} (hT : TyX a E C) (hTM : TyM ma E M) (hR : RelM M) (hkp : KEPT E n ma M) (ht1 : gi (C 5) 1 = gi (M 0) 7) (ht2 : gi (C 0) 2 = 0 ↔ n = 74) (ht3 : ga (C 32) = ga (M 7)) (htA : ∃ (A0 : LA) (T0 : TP), absX 10 C A0 ∧ absM M A0 ∧ okA A0 ∧ absTX 1 16 C T0 ∧ absTM M T0 ∧ ∃ S0 : HZ, absHX C S0 ∧ absHM M S0 ∧ shN (A0 5 0 1) S0) (htK : TIEK n C M) (hcN : cN ≤ 35 + n) (hsN : sN ≤ 1477 + 16 * n) {H : Heap} {locs : List Loc} (hP : va_P D vwCl (oh_W 35 a C ++ oh_W n ma M) H) (hD : va_D A (oh_W 35 a C ++ oh_W n ma M)) (hS : va_S A s.heap H locs) {ls : Array Slot} (hl : lv_has ls 4 [(3, .int (nI i)), (2, .ref (ma 0)), (1, .ref (a 0)), (0, .ref b)]) (kk : ∀ (ma : Nat → Nat) (C M : Nat → va_E) (n cN sN : Nat) (H : Heap) (locs : List Loc) (ls : Array Slot), TyX a E C → TyM ma E M → RelM M → KEPT E n ma M → gi (C 5) 1 = gi (M 0) 7 → (gi (C 0) 2 = 0 ↔ n = 74) → ga (C 32) = ga (M 7) → (∃ (A0 : LA) (T0 : TP), absX 10 C A0 ∧ absM M A0 ∧ okA A0 ∧ absTX 1 16 C T0 ∧ absTM M T0 ∧ ∃ S0 : HZ, absHX C S0 ∧ absHM M S0 ∧ shN (A0 5 0 1) S0) → TIEK n C M → cN ≤ 35 + n → sN ≤ 1477 + 16 * n → va_P D vwCl (oh_W 35 a C ++ oh_W n ma M) H → va_D A (oh_W 35 a C ++ oh_W n ma M) → va_S A s.heap H locs → lv_has ls 4 [(3, .int (nI i)), (2, .ref (ma 0)), (1, .ref (a 0)), (0, .ref b)] → W p l e room_1 s m #[Value.ref b] below meth c H locs cN sN (lw_Z below #[Value.ref b] s) (F0 m 2045 ls [])) : W p l e room_1 s m #[Value.ref b] below meth c H locs cN sN (lw_Z below #[Value.ref b] s) (F0 m 2022 ls []) := by
  obtain ⟨hx, hb, hr, hml, hown, hts, hX, hbl, hlocks, hgv⟩ := id C0
  have hown : s.vm.findClass RL = some m.cls := hown
  have htg : ∀ w ∈ oh_t, w.before _ s = true := fun w h => hts w (List.mem_filter.mp h).1
  have hA : ∀ q, s.heap.size ≤ q → A q := fun q h => by rw [hAe]; exact h
  have hbA : ¬ A b := by rw [hAe]; exact Nat.not_le.mpr hbl
  have hn := hkp.le.1
  have hn8 := hkp.le.2
  have ht10 := ht1
  have ht20 := ht2
  have ht30 := ht3
  obtain ⟨A0, T0, hAX, hAM, hok, hUX, hUM, S0, hSX, hSM, hSN⟩ := htA
  have hAX0 := hAX
  have hAM0 := hAM
  have htK0 := htK
  have hSX0 := hSX
  have hSM0 := hSM
  have hSN0 := hSN
  have hUX0 := hUX
  have hok0 := hok
  refine lv_aload_n hx hb dL_law_2022 rfl (lv_at hl 2 rfl) ?_
  refine lv_aload_n hx hb dL_law_2023 rfl (lv_at hl 3 rfl) ?_
  refine lv_iload_n hx hb dL_law_2024 rfl (lv_at hl 0 rfl) ?_
  refine lv_iconst (v := 1) hx hb dL_law_2025 (by decide) ?_
  refine lv_iadd hx hb dL_law_2026 ?_
  refine va_sld hx hb hX hbl hbA hS (lw_ix hi hL (rg_c (v := 1) (lo := 1) (hi := 1) (by decide)) (by decide)) dL_law_2027 ?_
  refine tq_V (As := [.int (xs ((nI i) + 1).toNatClampNeg)]) (rest := []) (ws := oh_W 35 a C) ⟨hx, hb, hml, hown, htg⟩ (c_X6_status l D E G a C hT (xs ((nI i) + 1).toNatClampNeg)) (cwV 1 htg (oh_gV q_951 q_952 q_953 q_66 q_954) rfl rfl rfl pdVX6_status ⟨Nat.le_of_ble_eq_true rfl, Nat.le_of_ble_eq_true rfl⟩) hK (oh_pre_P hP) hG hS (va_recv hK (oh_pre_P hP) (ci := 6) (q0 := 0) rfl (oh_wg (by decide) (sX_0 hT))) rfl hl.1 rfl (Nat.le_of_ble_eq_true rfl) dL_law_2028 ⟨show cN ≤ 600000 by omega, show sN ≤ 7302250 by omega⟩ (fun r_1 hq_2 => ?_)
  refine lv_pop hx hb dL_law_2031 rfl ?_
  refine lv_aload_n hx hb dL_law_2032 rfl (lv_at hl 1 rfl) ?_
  refine lv_aload_n hx hb dL_law_2033 rfl (lv_at hl 3 rfl) ?_
  refine lv_iload_n hx hb dL_law_2034 rfl (lv_at hl 0 rfl) ?_
  refine lv_iconst (v := 1) hx hb dL_law_2035 (by decide) ?_
  refine lv_iadd hx hb dL_law_2036 ?_
  refine va_sld hx hb hX hbl hbA hS (lw_ix hi hL (rg_c (v := 1) (lo := 1) (hi := 1) (by decide)) (by decide)) dL_law_2037 ?_
  refine tq_V (As := [.int (xs ((nI i) + 1).toNatClampNeg)]) (rest := []) (ws := oh_W n ma M) ⟨hx, hb, hml, hown, htg⟩ (c_X7_status l D E G ma M n hn hTM (xs ((nI i) + 1).toNatClampNeg) hR) (cwV 1 htg (oh_gV q_1441 q_1442 q_1443 q_73 q_1444) rfl rfl rfl pdVX7_status ⟨Nat.le_of_ble_eq_true rfl, Nat.le_of_ble_eq_true rfl⟩) hK (oh_suf_P hP) hG hS (va_recv hK (oh_suf_P hP) (ci := 7) (q0 := 0) rfl (oh_wg (by omega) (sM_0 hTM))) rfl hl.1 rfl (Nat.le_of_ble_eq_true rfl) dL_law_2038 ⟨show cN ≤ 600000 by omega, show sN ≤ 7302250 by omega⟩ (fun r_3 hq_4 => ?_)
  refine lv_pop hx hb dL_law_2041 rfl ?_
  refine lv_goto (tgt := 2045) hx hb dL_law_2042 (by decide) ?_
  exact kk ma C M n (cN) (sN) H locs ls hT hTM hR hkp ht1 ht2 ht3 ⟨_, _, hAX, hAM, hok, hUX, hUM, _, hSX, hSM, hSN⟩ htK (by omega) (by omega) hP hD hS hl
theorem bg_dL_law_0 : bysAt cL_law 0 [187, 0, 7, 89, 183, 0, 9, 76, 187, 0, 10, 89, 183, 0, 12, 77, 3, 62, 29, 42, 190, 16, 8] := bysAt_of (by decide +kernel)
theorem dL_law_0 : decode cL_law 0 = .ok (.new 7, 3) := o_187 (bg_dL_law_0 0 187 rfl) (bg_dL_law_0 1 0 rfl) (bg_dL_law_0 2 7 rfl)
theorem dL_law_3 : decode cL_law 3 = .ok (.dup, 1) := o_89 (bg_dL_law_0 3 89 rfl)
theorem dL_law_4 : decode cL_law 4 = .ok (.invokespecial 9, 3) := o_183 (bg_dL_law_0 4 183 rfl) (bg_dL_law_0 5 0 rfl) (bg_dL_law_0 6 9 rfl)
theorem dL_law_7 : decode cL_law 7 = .ok (.astore_n 1, 1) := o_76 (bg_dL_law_0 7 76 rfl)
theorem dL_law_8 : decode cL_law 8 = .ok (.new 10, 3) := o_187 (bg_dL_law_0 8 187 rfl) (bg_dL_law_0 9 0 rfl) (bg_dL_law_0 10 10 rfl)
theorem dL_law_11 : decode cL_law 11 = .ok (.dup, 1) := o_89 (bg_dL_law_0 11 89 rfl)
theorem dL_law_12 : decode cL_law 12 = .ok (.invokespecial 12, 3) := o_183 (bg_dL_law_0 12 183 rfl) (bg_dL_law_0 13 0 rfl) (bg_dL_law_0 14 12 rfl)
theorem dL_law_15 : decode cL_law 15 = .ok (.astore_n 2, 1) := o_77 (bg_dL_law_0 15 77 rfl)
theorem dL_law_16 : decode cL_law 16 = .ok (.iconst 0, 1) := o_3 (bg_dL_law_0 16 3 rfl)
theorem dL_law_17 : decode cL_law 17 = .ok (.istore_n 3, 1) := o_62 (bg_dL_law_0 17 62 rfl)
theorem dL_law_18 : decode cL_law 18 = .ok (.iload_n 3, 1) := o_29 (bg_dL_law_0 18 29 rfl)
theorem dL_law_19 : decode cL_law 19 = .ok (.aload_n 0, 1) := o_42 (bg_dL_law_0 19 42 rfl)
theorem dL_law_20 : decode cL_law 20 = .ok (.arraylength, 1) := o_190 (bg_dL_law_0 20 190 rfl)
theorem dL_law_21 : decode cL_law 21 = .ok (.bipush 8, 2) := o_16 (bg_dL_law_0 21 16 rfl) (bg_dL_law_0 22 8 rfl) (by decide +kernel)
theorem bg_dL_law_23 : bysAt cL_law 23 [100, 163, 7, 235, 42, 29, 46, 16, 63, 126] := bysAt_of (by decide +kernel)
theorem dL_law_23 : decode cL_law 23 = .ok (.isub, 1) := o_100 (bg_dL_law_23 0 100 rfl)
theorem dL_law_24 : decode cL_law 24 = .ok (.if_icmp .gt 2027, 3) := o_163 (bg_dL_law_23 1 163 rfl) (bg_dL_law_23 2 7 rfl) (bg_dL_law_23 3 235 rfl) (by decide +kernel)
theorem dL_law_27 : decode cL_law 27 = .ok (.aload_n 0, 1) := o_42 (bg_dL_law_23 4 42 rfl)
theorem dL_law_28 : decode cL_law 28 = .ok (.iload_n 3, 1) := o_29 (bg_dL_law_23 5 29 rfl)
theorem dL_law_29 : decode cL_law 29 = .ok (.iaload, 1) := o_46 (bg_dL_law_23 6 46 rfl)
theorem dL_law_30 : decode cL_law 30 = .ok (.bipush 63, 2) := o_16 (bg_dL_law_23 7 16 rfl) (bg_dL_law_23 8 63 rfl) (by decide +kernel)
theorem dL_law_32 : decode cL_law 32 = .ok (.iand, 1) := o_126 (bg_dL_law_23 9 126 rfl)
theorem bg_dL_law_2048 : bysAt cL_law 2048 [167, 248, 18, 4, 172] := bysAt_of (by decide +kernel)
theorem dL_law_2048 : decode cL_law 2048 = .ok (.goto (-2030), 3) := o_167 (bg_dL_law_2048 0 167 rfl) (bg_dL_law_2048 1 248 rfl) (bg_dL_law_2048 2 18 rfl) (by decide +kernel)
theorem dL_law_2051 : decode cL_law 2051 = .ok (.iconst 1, 1) := o_4 (bg_dL_law_2048 3 4 rfl)
theorem dL_law_2052 : decode cL_law 2052 = .ok (.ireturn, 1) := o_172 (bg_dL_law_2048 4 172 rfl)
theorem dL_law_33 : decode cL_law 33 = .ok (.tableswitch 2012 0 42 #[187, 230, 303, 366, 399, 422, 455, 488, 563, 626, 669, 712, 745, 778, 837, 886, 919, 932, 945, 978, 1011, 1060, 1083, 1116, 1159, 1202, 1255, 1308, 1361, 1424, 1467, 1530, 1605, 1648, 1701, 1744, 1787, 1874, 1927, 1940, 1963, 1976, 1989], 187) := by decide +kernel
theorem dL_law_2045 : decode cL_law 2045 = .ok (.iinc 3 8, 3) := by decide +kernel
set_option maxHeartbeats 4000000 in
set_option maxRecDepth 100000 in
theorem lw_cmp {i L : Nat} (hL : L ≤ 4096) (hi : i ≤ L) : (Int32.ofNat L - 8 < nI i) ↔ ¬ (i + 8 ≤ L) := by
  rw [Int32.lt_iff_toInt_lt, nI_toInt (by omega)]
  have e1 : (Int32.ofNat L).toInt = (L : Int) := nI_toInt (n := L) (by omega)
  have e2 : (Int32.ofNat L - 8).toInt = (L : Int) - 8 := by
    rw [Int32.toInt_sub, e1]
    exact oh_bmod (by show _ ≤ (L : Int) - 8; omega) (by show (L : Int) - 8 ≤ _; omega)
  rw [e2]
  omega
set_option maxHeartbeats 4000000 in
set_option maxRecDepth 100000 in
/-- the law at its loop -/
theorem lw_18 {p : Program} {e : Env} {s : State} {m : MethodId} {below : List Frame} {meth : Method} {c : Code} (l : Launch) {b L : Nat} {xs : Nat → Int32} (C0 : lw_At p s m meth c b L xs) (hL : L ≤ 4096) {D : va_G} {E : Nat → ClassId} {G : Nat → Nat} {A : Nat → Prop} (hAe : A = fun q => s.heap.size ≤ q) (hK : va_K D vwCl (oh_ty E) s) (hG : oh_G G A s) {a : Nat → Nat} : ∀ (d i : Nat) (ma : Nat → Nat) (C M : Nat → va_E) (n cN sN : Nat) (H : Heap) (locs : List Loc) (ls : Array Slot), L - i = d → i ≤ L → TyX a E C → TyM ma E M → RelM M → KEPT E n ma M → gi (C 5) 1 = gi (M 0) 7 → (gi (C 0) 2 = 0 ↔ n = 74) → ga (C 32) = ga (M 7) → (∃ (A0 : LA) (T0 : TP), absX 10 C A0 ∧ absM M A0 ∧ okA A0 ∧ absTX 1 16 C T0 ∧ absTM M T0 ∧ ∃ S0 : HZ, absHX C S0 ∧ absHM M S0 ∧ shN (A0 5 0 1) S0) → TIEK n C M → cN ≤ 35 + n → sN ≤ 1477 + 16 * n → va_P D vwCl (oh_W 35 a C ++ oh_W n ma M) H → va_D A (oh_W 35 a C ++ oh_W n ma M) → va_S A s.heap H locs → lv_has ls 4 [(3, .int (nI i)), (2, .ref (ma 0)), (1, .ref (a 0)), (0, .ref b)] → W p l e room_1 s m #[Value.ref b] below meth c H locs cN sN (lw_Z below #[Value.ref b] s) (F0 m 18 ls []) := by
  obtain ⟨hx, hb, hr, hml, hown, hts, hX, hbl, hlocks, hgv⟩ := id C0
  have hbA : ¬ A b := by rw [hAe]; exact Nat.not_le.mpr hbl
  intro d
  induction d using Nat.strongRecOn with
  | ind d ih =>
    intro i ma C M n cN sN H locs ls hd hiL hT hTM hR hkp ht1 ht2 ht3 htA htK hcN hsN hP hD hS hl
    have hn8 := hkp.le.2
    refine lv_iload_n hx hb dL_law_18 rfl (lv_at hl 0 rfl) ?_
    refine lv_aload_n hx hb dL_law_19 rfl (lv_at hl 3 rfl) ?_
    refine va_slen hx hb hX hbl hbA hS dL_law_20 ?_
    refine lv_bipush (v := 8) hx hb dL_law_21 (by decide) ?_
    refine lv_isub hx hb dL_law_23 ?_
    by_cases h8 : i + 8 ≤ L
    · refine lv_icmp_gt (tgt := 2051) hx hb dL_law_24 (by decide) (fun c => absurd h8 ((lw_cmp hL hiL).mp c)) (fun _ => ?_)
      refine lv_aload_n hx hb dL_law_27 rfl (lv_at hl 3 rfl) ?_
      refine lv_iload_n hx hb dL_law_28 rfl (lv_at hl 0 rfl) ?_
      refine va_sld hx hb hX hbl hbA hS (vp_in_nI (by omega) (by omega)) dL_law_29 ?_
      refine lv_bipush (v := 63) hx hb dL_law_30 (by decide) ?_
      refine lv_iand hx hb dL_law_32 ?_
      have nxt : ∀ (ma : Nat → Nat) (C M : Nat → va_E) (n cN sN : Nat) (H : Heap) (locs : List Loc) (ls : Array Slot), TyX a E C → TyM ma E M → RelM M → KEPT E n ma M → gi (C 5) 1 = gi (M 0) 7 → (gi (C 0) 2 = 0 ↔ n = 74) → ga (C 32) = ga (M 7) → (∃ (A0 : LA) (T0 : TP), absX 10 C A0 ∧ absM M A0 ∧ okA A0 ∧ absTX 1 16 C T0 ∧ absTM M T0 ∧ ∃ S0 : HZ, absHX C S0 ∧ absHM M S0 ∧ shN (A0 5 0 1) S0) → TIEK n C M → cN ≤ 35 + n → sN ≤ 1477 + 16 * n → va_P D vwCl (oh_W 35 a C ++ oh_W n ma M) H → va_D A (oh_W 35 a C ++ oh_W n ma M) → va_S A s.heap H locs → lv_has ls 4 [(3, .int (nI i)), (2, .ref (ma 0)), (1, .ref (a 0)), (0, .ref b)] → W p l e room_1 s m #[Value.ref b] below meth c H locs cN sN (lw_Z below #[Value.ref b] s) (F0 m 2045 ls []) := by
        intro ma C M n cN sN H locs ls hT hTM hR hkp ht1 ht2 ht3 htA htK hcN hsN hP hD hS hl
        refine lv_iinc (v := nI (i + 8)) (lv' := [(3, .int (nI (i + 8))), (2, .ref (ma 0)), (1, .ref (a 0)), (0, .ref b)]) hx hb dL_law_2045 hl (k := 0) rfl (by exact nI_add i 8) (by decide) rfl (fun ls hl => ?_)
        refine lv_goto (tgt := 18) hx hb dL_law_2048 (by decide) ?_
        exact ih (L - (i + 8)) (by omega) (i + 8) ma C M n cN sN H locs ls rfl h8 hT hTM hR hkp ht1 ht2 ht3 htA htK hcN hsN hP hD hS hl
      obtain ⟨j, hj, ej⟩ := pk_andE (xs (nI i).toNatClampNeg) (m := 63) 6 (by decide)
      rw [ej]
      rcases (show j = 0 ∨ j = 1 ∨ j = 2 ∨ j = 3 ∨ j = 4 ∨ j = 5 ∨ j = 6 ∨ j = 7 ∨ j = 8 ∨ j = 9 ∨ j = 10 ∨ j = 11 ∨ j = 12 ∨ j = 13 ∨ j = 14 ∨ j = 15 ∨ j = 16 ∨ j = 17 ∨ j = 18 ∨ j = 19 ∨ j = 20 ∨ j = 21 ∨ j = 22 ∨ j = 23 ∨ j = 24 ∨ j = 25 ∨ j = 26 ∨ j = 27 ∨ j = 28 ∨ j = 29 ∨ j = 30 ∨ j = 31 ∨ j = 32 ∨ j = 33 ∨ j = 34 ∨ j = 35 ∨ j = 36 ∨ j = 37 ∨ j = 38 ∨ j = 39 ∨ j = 40 ∨ j = 41 ∨ j = 42 ∨ 43 ≤ j by omega) with rfl | rfl | rfl | rfl | rfl | rfl | rfl | rfl | rfl | rfl | rfl | rfl | rfl | rfl | rfl | rfl | rfl | rfl | rfl | rfl | rfl | rfl | rfl | rfl | rfl | rfl | rfl | rfl | rfl | rfl | rfl | rfl | rfl | rfl | rfl | rfl | rfl | rfl | rfl | rfl | rfl | rfl | rfl | h43
      · refine lv_tableIn (off := 187) (tgt := 220) hx hb dL_law_33 (by decide) (by decide) (by decide) (by decide) ?_
        exact lc_row l C0 hL hAe hK hG h8 hT hTM hR hkp ht1 ht2 ht3 htA htK hcN hsN hP hD hS hl nxt
      · refine lv_tableIn (off := 230) (tgt := 263) hx hb dL_law_33 (by decide) (by decide) (by decide) (by decide) ?_
        exact lc_set l C0 hL hAe hK hG h8 hT hTM hR hkp ht1 ht2 ht3 htA htK hcN hsN hP hD hS hl nxt
      · refine lv_tableIn (off := 303) (tgt := 336) hx hb dL_law_33 (by decide) (by decide) (by decide) (by decide) ?_
        exact lc_copy l C0 hL hAe hK hG h8 hT hTM hR hkp ht1 ht2 ht3 htA htK hcN hsN hP hD hS hl nxt
      · refine lv_tableIn (off := 366) (tgt := 399) hx hb dL_law_33 (by decide) (by decide) (by decide) (by decide) ?_
        exact lc_element l C0 hL hAe hK hG h8 hT hTM hR hkp ht1 ht2 ht3 htA htK hcN hsN hP hD hS hl nxt
      · refine lv_tableIn (off := 399) (tgt := 432) hx hb dL_law_33 (by decide) (by decide) (by decide) (by decide) ?_
        exact lc_holds l C0 hL hAe hK hG h8 hT hTM hR hkp ht1 ht2 ht3 htA htK hcN hsN hP hD hS hl nxt
      · refine lv_tableIn (off := 422) (tgt := 455) hx hb dL_law_33 (by decide) (by decide) (by decide) (by decide) ?_
        exact lc_show l C0 hL hAe hK hG h8 hT hTM hR hkp ht1 ht2 ht3 htA htK hcN hsN hP hD hS hl nxt
      · refine lv_tableIn (off := 455) (tgt := 488) hx hb dL_law_33 (by decide) (by decide) (by decide) (by decide) ?_
        exact lc_says l C0 hL hAe hK hG h8 hT hTM hR hkp ht1 ht2 ht3 htA htK hcN hsN hP hD hS hl nxt
      · refine lv_tableIn (off := 488) (tgt := 521) hx hb dL_law_33 (by decide) (by decide) (by decide) (by decide) ?_
        exact lc_road l C0 hL hAe hK hG h8 hT hTM hR hkp ht1 ht2 ht3 htA htK hcN hsN hP hD hS hl nxt
      · refine lv_tableIn (off := 563) (tgt := 596) hx hb dL_law_33 (by decide) (by decide) (by decide) (by decide) ?_
        exact lc_bridge l C0 hL hAe hK hG h8 hT hTM hR hkp ht1 ht2 ht3 htA htK hcN hsN hP hD hS hl nxt
      · refine lv_tableIn (off := 626) (tgt := 659) hx hb dL_law_33 (by decide) (by decide) (by decide) (by decide) ?_
        exact lc_prop l C0 hL hAe hK hG h8 hT hTM hR hkp ht1 ht2 ht3 htA htK hcN hsN hP hD hS hl nxt
      · refine lv_tableIn (off := 669) (tgt := 702) hx hb dL_law_33 (by decide) (by decide) (by decide) (by decide) ?_
        exact lc_waggon l C0 hL hAe hK hG h8 hT hTM hR hkp ht1 ht2 ht3 htA htK hcN hsN hP hD hS hl nxt
      · refine lv_tableIn (off := 712) (tgt := 745) hx hb dL_law_33 (by decide) (by decide) (by decide) (by decide) ?_
        exact lc_part l C0 hL hAe hK hG h8 hT hTM hR hkp ht1 ht2 ht3 htA htK hcN hsN hP hD hS hl nxt
      · refine lv_tableIn (off := 745) (tgt := 778) hx hb dL_law_33 (by decide) (by decide) (by decide) (by decide) ?_
        exact lc_ask l C0 hL hAe hK hG h8 hT hTM hR hkp ht1 ht2 ht3 htA htK hcN hsN hP hD hS hl nxt
      · refine lv_tableIn (off := 778) (tgt := 811) hx hb dL_law_33 (by decide) (by decide) (by decide) (by decide) ?_
        exact lc_stand l C0 hL hAe hK hG h8 hT hTM hR hkp ht1 ht2 ht3 htA htK hcN hsN hP hD hS hl nxt
      · refine lv_tableIn (off := 837) (tgt := 870) hx hb dL_law_33 (by decide) (by decide) (by decide) (by decide) ?_
        exact lc_shut l C0 hL hAe hK hG h8 hT hTM hR hkp ht1 ht2 ht3 htA htK hcN hsN hP hD hS hl nxt
      · refine lv_tableIn (off := 886) (tgt := 919) hx hb dL_law_33 (by decide) (by decide) (by decide) (by decide) ?_
        exact lc_feed l C0 hL hAe hK hG h8 hT hTM hR hkp ht1 ht2 ht3 htA htK hcN hsN hP hD hS hl nxt
      · refine lv_tableIn (off := 919) (tgt := 952) hx hb dL_law_33 (by decide) (by decide) (by decide) (by decide) ?_
        exact lc_wipe l C0 hL hAe hK hG h8 hT hTM hR hkp ht1 ht2 ht3 htA htK hcN hsN hP hD hS hl nxt
      · refine lv_tableIn (off := 932) (tgt := 965) hx hb dL_law_33 (by decide) (by decide) (by decide) (by decide) ?_
        exact lc_land l C0 hL hAe hK hG h8 hT hTM hR hkp ht1 ht2 ht3 htA htK hcN hsN hP hD hS hl nxt
      · refine lv_tableIn (off := 945) (tgt := 978) hx hb dL_law_33 (by decide) (by decide) (by decide) (by decide) ?_
        exact lc_roadOf l C0 hL hAe hK hG h8 hT hTM hR hkp ht1 ht2 ht3 htA htK hcN hsN hP hD hS hl nxt
      · refine lv_tableIn (off := 978) (tgt := 1011) hx hb dL_law_33 (by decide) (by decide) (by decide) (by decide) ?_
        exact lc_bridgeOf l C0 hL hAe hK hG h8 hT hTM hR hkp ht1 ht2 ht3 htA htK hcN hsN hP hD hS hl nxt
      · refine lv_tableIn (off := 1011) (tgt := 1044) hx hb dL_law_33 (by decide) (by decide) (by decide) (by decide) ?_
        exact lc_bears l C0 hL hAe hK hG h8 hT hTM hR hkp ht1 ht2 ht3 htA htK hcN hsN hP hD hS hl nxt
      · refine lv_tableIn (off := 1060) (tgt := 1093) hx hb dL_law_33 (by decide) (by decide) (by decide) (by decide) ?_
        exact lc_length l C0 hL hAe hK hG h8 hT hTM hR hkp ht1 ht2 ht3 htA htK hcN hsN hP hD hS hl nxt
      · refine lv_tableIn (off := 1083) (tgt := 1116) hx hb dL_law_33 (by decide) (by decide) (by decide) (by decide) ?_
        exact lc_axle l C0 hL hAe hK hG h8 hT hTM hR hkp ht1 ht2 ht3 htA htK hcN hsN hP hD hS hl nxt
      · refine lv_tableIn (off := 1116) (tgt := 1149) hx hb dL_law_33 (by decide) (by decide) (by decide) (by decide) ?_
        exact lc_strain l C0 hL hAe hK hG h8 hT hTM hR hkp ht1 ht2 ht3 htA htK hcN hsN hP hD hS hl nxt
      · refine lv_tableIn (off := 1159) (tgt := 1192) hx hb dL_law_33 (by decide) (by decide) (by decide) (by decide) ?_
        exact lc_needs l C0 hL hAe hK hG h8 hT hTM hR hkp ht1 ht2 ht3 htA htK hcN hsN hP hD hS hl nxt
      · refine lv_tableIn (off := 1202) (tgt := 1235) hx hb dL_law_33 (by decide) (by decide) (by decide) (by decide) ?_
        exact lc_goes l C0 hL hAe hK hG h8 hT hTM hR hkp ht1 ht2 ht3 htA htK hcN hsN hP hD hS hl nxt
      · refine lv_tableIn (off := 1255) (tgt := 1288) hx hb dL_law_33 (by decide) (by decide) (by decide) (by decide) ?_
        exact lc_cheapest l C0 hL hAe hK hG h8 hT hTM hR hkp ht1 ht2 ht3 htA htK hcN hsN hP hD hS hl nxt
      · refine lv_tableIn (off := 1308) (tgt := 1341) hx hb dL_law_33 (by decide) (by decide) (by decide) (by decide) ?_
        exact lc_soonest l C0 hL hAe hK hG h8 hT hTM hR hkp ht1 ht2 ht3 htA htK hcN hsN hP hD hS hl nxt
      · refine lv_tableIn (off := 1361) (tgt := 1394) hx hb dL_law_33 (by decide) (by decide) (by decide) (by decide) ?_
        exact lc_again l C0 hL hAe hK hG h8 hT hTM hR hkp ht1 ht2 ht3 htA htK hcN hsN hP hD hS hl nxt
      · refine lv_tableIn (off := 1424) (tgt := 1457) hx hb dL_law_33 (by decide) (by decide) (by decide) (by decide) ?_
        exact lc_best l C0 hL hAe hK hG h8 hT hTM hR hkp ht1 ht2 ht3 htA htK hcN hsN hP hD hS hl nxt
      · refine lv_tableIn (off := 1467) (tgt := 1500) hx hb dL_law_33 (by decide) (by decide) (by decide) (by decide) ?_
        exact lc_judge l C0 hL hAe hK hG h8 hT hTM hR hkp ht1 ht2 ht3 htA htK hcN hsN hP hD hS hl nxt
      · refine lv_tableIn (off := 1530) (tgt := 1563) hx hb dL_law_33 (by decide) (by decide) (by decide) (by decide) ?_
        exact lc_told l C0 hL hAe hK hG h8 hT hTM hR hkp ht1 ht2 ht3 htA htK hcN hsN hP hD hS hl nxt
      · refine lv_tableIn (off := 1605) (tgt := 1638) hx hb dL_law_33 (by decide) (by decide) (by decide) (by decide) ?_
        exact lc_reach l C0 hL hAe hK hG h8 hT hTM hR hkp ht1 ht2 ht3 htA htK hcN hsN hP hD hS hl nxt
      · refine lv_tableIn (off := 1648) (tgt := 1681) hx hb dL_law_33 (by decide) (by decide) (by decide) (by decide) ?_
        exact lc_hang l C0 hL hAe hK hG h8 hT hTM hR hkp ht1 ht2 ht3 htA htK hcN hsN hP hD hS hl nxt
      · refine lv_tableIn (off := 1701) (tgt := 1734) hx hb dL_law_33 (by decide) (by decide) (by decide) (by decide) ?_
        exact lc_fewest l C0 hL hAe hK hG h8 hT hTM hR hkp ht1 ht2 ht3 htA htK hcN hsN hP hD hS hl nxt
      · refine lv_tableIn (off := 1744) (tgt := 1777) hx hb dL_law_33 (by decide) (by decide) (by decide) (by decide) ?_
        exact lc_most l C0 hL hAe hK hG h8 hT hTM hR hkp ht1 ht2 ht3 htA htK hcN hsN hP hD hS hl nxt
      · refine lv_tableIn (off := 1787) (tgt := 1820) hx hb dL_law_33 (by decide) (by decide) (by decide) (by decide) ?_
        exact lc_frost l C0 hL hAe hK hG h8 hT hTM hR hkp ht1 ht2 ht3 htA htK hcN hsN hP hD hS hl nxt
      · refine lv_tableIn (off := 1874) (tgt := 1907) hx hb dL_law_33 (by decide) (by decide) (by decide) (by decide) ?_
        exact lc_begin l C0 hL hAe hK hG h8 hT hTM hR hkp ht1 ht2 ht3 htA htK hcN hsN hP hD hS hl nxt
      · refine lv_tableIn (off := 1927) (tgt := 1960) hx hb dL_law_33 (by decide) (by decide) (by decide) (by decide) ?_
        exact lc_step l C0 hL hAe hK hG h8 hT hTM hR hkp ht1 ht2 ht3 htA htK hcN hsN hP hD hS hl nxt
      · refine lv_tableIn (off := 1940) (tgt := 1973) hx hb dL_law_33 (by decide) (by decide) (by decide) (by decide) ?_
        exact lc_under l C0 hL hAe hK hG h8 hT hTM hR hkp ht1 ht2 ht3 htA htK hcN hsN hP hD hS hl nxt
      · refine lv_tableIn (off := 1963) (tgt := 1996) hx hb dL_law_33 (by decide) (by decide) (by decide) (by decide) ?_
        exact lc_image l C0 hL hAe hK hG h8 hT hTM hR hkp ht1 ht2 ht3 htA htK hcN hsN hP hD hS hl nxt
      · refine lv_tableIn (off := 1976) (tgt := 2009) hx hb dL_law_33 (by decide) (by decide) (by decide) (by decide) ?_
        exact lc_back l C0 hL hAe hK hG h8 hT hTM hR hkp ht1 ht2 ht3 htA htK hcN hsN hP hD hS hl nxt
      · refine lv_tableIn (off := 1989) (tgt := 2022) hx hb dL_law_33 (by decide) (by decide) (by decide) (by decide) ?_
        exact lc_status l C0 hL hAe hK hG h8 hT hTM hR hkp ht1 ht2 ht3 htA htK hcN hsN hP hD hS hl nxt
      · refine lv_tableOut (tgt := 2045) hx hb dL_law_33 (Or.inr (by rw [nI_toInt (by omega)]; omega)) (by decide) ?_
        exact nxt ma C M n cN sN H locs ls hT hTM hR hkp ht1 ht2 ht3 htA htK hcN hsN hP hD hS hl
    · refine lv_icmp_gt (tgt := 2051) hx hb dL_law_24 (by decide) (fun _ => ?_) (fun c => absurd ((lw_cmp hL hiL).mpr h8) c)
      refine lv_iconst (v := 1) hx hb dL_law_2051 (by decide) ?_
      refine va_forget (fun q hq => by have h := hS.2.2 q hq; rw [hAe] at h; exact h) ?_
      refine W.widen (k := 600000) (n := 7302250) (by omega) (by omega) ?_
      exact lw_ret hx hb hr hlocks dL_law_2052
