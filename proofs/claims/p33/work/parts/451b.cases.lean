set_option maxHeartbeats 4000000 in
set_option maxRecDepth 100000 in
/-- the law at a call of feed -/
theorem lc_feed {p : Program} {e : Env} {s : State} {m : MethodId} {below : List Frame} {meth : Method} {c : Code} (l : Launch) {b L : Nat} {xs : Nat → Int32} (C0 : lw_At p s m meth c b L xs) (hL : L ≤ 4096) {D : va_G} {E : Nat → ClassId} {G : Nat → Nat} {A : Nat → Prop} (hAe : A = fun q => s.heap.size ≤ q) (hK : va_K D vwCl (oh_ty E) s) (hG : oh_G G A s) {a : Nat → Nat} {i : Nat} (hi : i + 8 ≤ L) {ma : Nat → Nat} {C M : Nat → va_E} {n cN sN : Nat} (hT : TyX a E C) (hTM : TyM ma E M) (hR : RelM M) (hkp : KEPT E n ma M) (ht1 : gi (C 5) 1 = gi (M 0) 7) (ht2 : gi (C 0) 2 = 0 ↔ n = 74) (ht3 : ga (C 32) = ga (M 7)) (htA : ∃ (A0 : LA) (T0 : TP), absX 10 C A0 ∧ absM M A0 ∧ okA A0 ∧ absTX 1 16 C T0 ∧ absTM M T0 ∧ ∃ (S0 : HZ) (Z0 : EZ), absHX C S0 ∧ absHM M S0 ∧ absEX C S0 Z0 ∧ absEM M S0 Z0) (htK : TIEK n C M) (hcN : cN ≤ 35 + n) (hsN : sN ≤ 1477 + 16 * n) {H : Heap} {locs : List Loc} (hP : va_P D vwCl (oh_W 35 a C ++ oh_W n ma M) H) (hD : va_D A (oh_W 35 a C ++ oh_W n ma M)) (hS : va_S A s.heap H locs) {ls : Array Slot} (hl : lv_has ls 4 [(3, .int (nI i)), (2, .ref (ma 0)), (1, .ref (a 0)), (0, .ref b)]) (kk : ∀ (ma : Nat → Nat) (C M : Nat → va_E) (n cN sN : Nat) (H : Heap) (locs : List Loc) (ls : Array Slot), TyX a E C → TyM ma E M → RelM M → KEPT E n ma M → gi (C 5) 1 = gi (M 0) 7 → (gi (C 0) 2 = 0 ↔ n = 74) → ga (C 32) = ga (M 7) → (∃ (A0 : LA) (T0 : TP), absX 10 C A0 ∧ absM M A0 ∧ okA A0 ∧ absTX 1 16 C T0 ∧ absTM M T0 ∧ ∃ (S0 : HZ) (Z0 : EZ), absHX C S0 ∧ absHM M S0 ∧ absEX C S0 Z0 ∧ absEM M S0 Z0) → TIEK n C M → cN ≤ 35 + n → sN ≤ 1477 + 16 * n → va_P D vwCl (oh_W 35 a C ++ oh_W n ma M) H → va_D A (oh_W 35 a C ++ oh_W n ma M) → va_S A s.heap H locs → lv_has ls 4 [(3, .int (nI i)), (2, .ref (ma 0)), (1, .ref (a 0)), (0, .ref b)] → W p l e room_1 s m #[Value.ref b] below meth c H locs cN sN (lw_Z below #[Value.ref b] s) (F0 m 2045 ls [])) : W p l e room_1 s m #[Value.ref b] below meth c H locs cN sN (lw_Z below #[Value.ref b] s) (F0 m 919 ls []) := by
  obtain ⟨hx, hb, hr, hml, hown, hts, hX, hbl, hlocks, hgv⟩ := id C0
  have hown : s.vm.findClass RL = some m.cls := hown
  have htg : ∀ w ∈ oh_t, w.before _ s = true := fun w h => hts w (List.mem_filter.mp h).1
  have hA : ∀ q, s.heap.size ≤ q → A q := fun q h => by rw [hAe]; exact h
  have hbA : ¬ A b := by rw [hAe]; exact Nat.not_le.mpr hbl
  have hn := hkp.le.1
  have hn8 := hkp.le.2
  have ht10 := ht1
  have ht20 := ht2
  have ht30 := ht3
  obtain ⟨A0, T0, hAX, hAM, hok, hUX, hUM, S0, Z0, hSX, hSM, hEX, hEM⟩ := htA
  have hAX0 := hAX
  have hAM0 := hAM
  have htK0 := htK
  have hSX0 := hSX
  have hSM0 := hSM
  have hEX0 := hEX
  have hEM0 := hEM
  have hUX0 := hUX
  refine lv_aload_n hx hb dL_law_919 rfl (lv_at hl 2 rfl) ?_
  refine lv_aload_n hx hb dL_law_920 rfl (lv_at hl 3 rfl) ?_
  refine lv_iload_n hx hb dL_law_921 rfl (lv_at hl 0 rfl) ?_
  refine lv_iconst (v := 1) hx hb dL_law_922 (by decide) ?_
  refine lv_iadd hx hb dL_law_923 ?_
  refine va_sld hx hb hX hbl hbA hS (lw_ix hi hL (rg_c (v := 1) (lo := 1) (hi := 1) (by decide)) (by decide)) dL_law_924 ?_
  refine lv_aload_n hx hb dL_law_925 rfl (lv_at hl 3 rfl) ?_
  refine lv_iload_n hx hb dL_law_926 rfl (lv_at hl 0 rfl) ?_
  refine lv_iconst (v := 2) hx hb dL_law_927 (by decide) ?_
  refine lv_iadd hx hb dL_law_928 ?_
  refine va_sld hx hb hX hbl hbA hS (lw_ix hi hL (rg_c (v := 2) (lo := 2) (hi := 2) (by decide)) (by decide)) dL_law_929 ?_
  refine lw_cX (As := [.int (xs ((nI i) + 1).toNatClampNeg), .int (xs ((nI i) + 2).toNatClampNeg)]) (rest := []) ⟨hx, hb, hml, hown, htg⟩ (e_X6_feed l D E G _ a C hT (xs ((nI i) + 1).toNatClampNeg) (xs ((nI i) + 2).toNatClampNeg)) (cwV 2 htg (oh_gV q_483 q_484 q_485 q_66 q_486) rfl rfl rfl pdVX6_feed ⟨Nat.le_of_ble_eq_true rfl, Nat.le_of_ble_eq_true rfl⟩) hK hP hD hG hS hA (va_recv hK (oh_pre_P hP) (ci := 6) (q0 := 0) rfl (oh_wg (by decide) (sX_0 hT))) rfl hl.1 rfl (Nat.le_of_ble_eq_true rfl) dL_law_930 ⟨show cN + 0 ≤ 600000 by omega, show sN + 0 ≤ 7302250 by omega⟩ (fun r_1 C_3 H locs hq_2 hP hD hS => ?_)
  obtain ⟨hT, f_4, hq_2⟩ := hq_2
  have ht2 : gi (C_3 0) 2 = 0 ↔ n = 74 := by rw [show gi (C_3 0) 2 = gi (C 0) 2 from congrArg vi (f_4.2 2 (by decide))]; exact ht2
  have htK := htK.x (fr_all f_4 17 23 (by decide)) (f_4.1 2 rfl (by decide))
  have hAX : absX 10 C_3 A0 := absX_eq hAX (fun k k1 k2 => fr_all f_4 10 15 (by decide) k k1 (by omega))
  have hUX : absTX 1 16 C_3 T0 := absTX_eq hUX (congrArg (fun z => gi z 7) (f_4.1 1 rfl (by decide))) (f_4.1 16 rfl (by decide))
  have hEX := ex_eq hEX (f_4.1 31 rfl (by decide))
  have hSX : absHX C_3 S0 := hx_fr hSX (f_4.1 29 rfl (by decide)) (f_4.1 30 rfl (by decide))
  refine W.widen (k := cN) (n := sN) (Nat.le_refl _) (Nat.le_refl _) ?_
  refine lv_pop hx hb dL_law_933 rfl ?_
  refine lv_aload_n hx hb dL_law_934 rfl (lv_at hl 1 rfl) ?_
  refine lv_aload_n hx hb dL_law_935 rfl (lv_at hl 3 rfl) ?_
  refine lv_iload_n hx hb dL_law_936 rfl (lv_at hl 0 rfl) ?_
  refine lv_iconst (v := 1) hx hb dL_law_937 (by decide) ?_
  refine lv_iadd hx hb dL_law_938 ?_
  refine va_sld hx hb hX hbl hbA hS (lw_ix hi hL (rg_c (v := 1) (lo := 1) (hi := 1) (by decide)) (by decide)) dL_law_939 ?_
  refine lv_aload_n hx hb dL_law_940 rfl (lv_at hl 3 rfl) ?_
  refine lv_iload_n hx hb dL_law_941 rfl (lv_at hl 0 rfl) ?_
  refine lv_iconst (v := 2) hx hb dL_law_942 (by decide) ?_
  refine lv_iadd hx hb dL_law_943 ?_
  refine va_sld hx hb hX hbl hbA hS (lw_ix hi hL (rg_c (v := 2) (lo := 2) (hi := 2) (by decide)) (by decide)) dL_law_944 ?_
  refine lw_cM (As := [.int (xs ((nI i) + 1).toNatClampNeg), .int (xs ((nI i) + 2).toNatClampNeg)]) (rest := []) ⟨hx, hb, hml, hown, htg⟩ (e_X7_feed l D E G _ ma M n hn hTM (xs ((nI i) + 1).toNatClampNeg) (xs ((nI i) + 2).toNatClampNeg) hR) (cwV 2 htg (oh_gV q_1181 q_1182 q_1183 q_73 q_1184) rfl rfl rfl pdVX7_feed ⟨Nat.le_of_ble_eq_true rfl, Nat.le_of_ble_eq_true rfl⟩) hK hP hD hG hS hA (va_recv hK (oh_suf_P hP) (ci := 7) (q0 := 0) rfl (oh_wg (by omega) (sM_0 hTM))) rfl hl.1 rfl (Nat.le_of_ble_eq_true rfl) dL_law_945 ⟨show cN + 0 ≤ 600000 by omega, show sN + 0 ≤ 7302250 by omega⟩ (fun r_5 M_7 H locs hq_6 hP hD hS => ?_)
  have hTM0 := hTM
  obtain ⟨hTM, f_8, hR, hq_6⟩ := hq_6
  have hkp := kept_fr hkp f_8 (by decide)
  have ht1 : gi (C_3 5) 1 = gi (M_7 0) 7 := by rw [hq_2.2.1, hq_6.2.1, ht10]
  have ht3 : ga (C_3 32) = ga (M_7 7) := by rw [hq_2.2.2, hq_6.2.2, ht30, ht10]
  have htK := htK.m f_8 (by decide)
  have hAM : absM M_7 A0 := absM_fr hAM hTM0 f_8 (by decide) (by decide) (by decide)
  have hUM : absTM M_7 T0 := absTM_eq hUM (f_8.1 14 rfl (by decide)) (congrArg vi (f_8.2 19 (by decide)))
  have hEM := em_eq hEM (fun s hs => f_8.1 (16 + s) (inR_out hs (by decide)) (by omega))
  have hSM : absHM M_7 S0 := hm_fr hSM (f_8.1 1 rfl (by decide)) (f_8.1 2 rfl (by decide)) (f_8.1 3 rfl (by decide)) (f_8.1 6 rfl (by decide))
  refine W.widen (k := cN) (n := sN) (Nat.le_refl _) (Nat.le_refl _) ?_
  refine lv_pop hx hb dL_law_948 rfl ?_
  refine lv_goto (tgt := 2045) hx hb dL_law_949 (by decide) ?_
  exact kk ma C_3 M_7 n (cN) (sN) H locs ls hT hTM hR hkp ht1 ht2 ht3 ⟨_, _, hAX, hAM, hok, hUX, hUM, _, _, hSX, hSM, hEX, hEM⟩ htK (by omega) (by omega) hP hD hS hl

set_option maxHeartbeats 4000000 in
set_option maxRecDepth 100000 in
/-- the law at a call of wipe -/
theorem lc_wipe {p : Program} {e : Env} {s : State} {m : MethodId} {below : List Frame} {meth : Method} {c : Code} (l : Launch) {b L : Nat} {xs : Nat → Int32} (C0 : lw_At p s m meth c b L xs) (hL : L ≤ 4096) {D : va_G} {E : Nat → ClassId} {G : Nat → Nat} {A : Nat → Prop} (hAe : A = fun q => s.heap.size ≤ q) (hK : va_K D vwCl (oh_ty E) s) (hG : oh_G G A s) {a : Nat → Nat} {i : Nat} (hi : i + 8 ≤ L) {ma : Nat → Nat} {C M : Nat → va_E} {n cN sN : Nat} (hT : TyX a E C) (hTM : TyM ma E M) (hR : RelM M) (hkp : KEPT E n ma M) (ht1 : gi (C 5) 1 = gi (M 0) 7) (ht2 : gi (C 0) 2 = 0 ↔ n = 74) (ht3 : ga (C 32) = ga (M 7)) (htA : ∃ (A0 : LA) (T0 : TP), absX 10 C A0 ∧ absM M A0 ∧ okA A0 ∧ absTX 1 16 C T0 ∧ absTM M T0 ∧ ∃ (S0 : HZ) (Z0 : EZ), absHX C S0 ∧ absHM M S0 ∧ absEX C S0 Z0 ∧ absEM M S0 Z0) (htK : TIEK n C M) (hcN : cN ≤ 35 + n) (hsN : sN ≤ 1477 + 16 * n) {H : Heap} {locs : List Loc} (hP : va_P D vwCl (oh_W 35 a C ++ oh_W n ma M) H) (hD : va_D A (oh_W 35 a C ++ oh_W n ma M)) (hS : va_S A s.heap H locs) {ls : Array Slot} (hl : lv_has ls 4 [(3, .int (nI i)), (2, .ref (ma 0)), (1, .ref (a 0)), (0, .ref b)]) (kk : ∀ (ma : Nat → Nat) (C M : Nat → va_E) (n cN sN : Nat) (H : Heap) (locs : List Loc) (ls : Array Slot), TyX a E C → TyM ma E M → RelM M → KEPT E n ma M → gi (C 5) 1 = gi (M 0) 7 → (gi (C 0) 2 = 0 ↔ n = 74) → ga (C 32) = ga (M 7) → (∃ (A0 : LA) (T0 : TP), absX 10 C A0 ∧ absM M A0 ∧ okA A0 ∧ absTX 1 16 C T0 ∧ absTM M T0 ∧ ∃ (S0 : HZ) (Z0 : EZ), absHX C S0 ∧ absHM M S0 ∧ absEX C S0 Z0 ∧ absEM M S0 Z0) → TIEK n C M → cN ≤ 35 + n → sN ≤ 1477 + 16 * n → va_P D vwCl (oh_W 35 a C ++ oh_W n ma M) H → va_D A (oh_W 35 a C ++ oh_W n ma M) → va_S A s.heap H locs → lv_has ls 4 [(3, .int (nI i)), (2, .ref (ma 0)), (1, .ref (a 0)), (0, .ref b)] → W p l e room_1 s m #[Value.ref b] below meth c H locs cN sN (lw_Z below #[Value.ref b] s) (F0 m 2045 ls [])) : W p l e room_1 s m #[Value.ref b] below meth c H locs cN sN (lw_Z below #[Value.ref b] s) (F0 m 952 ls []) := by
  obtain ⟨hx, hb, hr, hml, hown, hts, hX, hbl, hlocks, hgv⟩ := id C0
  have hown : s.vm.findClass RL = some m.cls := hown
  have htg : ∀ w ∈ oh_t, w.before _ s = true := fun w h => hts w (List.mem_filter.mp h).1
  have hA : ∀ q, s.heap.size ≤ q → A q := fun q h => by rw [hAe]; exact h
  have hbA : ¬ A b := by rw [hAe]; exact Nat.not_le.mpr hbl
  have hn := hkp.le.1
  have hn8 := hkp.le.2
  have ht10 := ht1
  have ht20 := ht2
  have ht30 := ht3
  obtain ⟨A0, T0, hAX, hAM, hok, hUX, hUM, S0, Z0, hSX, hSM, hEX, hEM⟩ := htA
  have hAX0 := hAX
  have hAM0 := hAM
  have htK0 := htK
  have hSX0 := hSX
  have hSM0 := hSM
  have hEX0 := hEX
  have hEM0 := hEM
  have hUX0 := hUX
  refine lv_aload_n hx hb dL_law_952 rfl (lv_at hl 2 rfl) ?_
  refine lw_cX (As := []) (rest := []) ⟨hx, hb, hml, hown, htg⟩ (c_X6_wipe l D E G _ a C hT) (cwV 0 htg (oh_gV q_491 q_492 q_493 q_66 q_494) rfl rfl rfl pdVX6_wipe ⟨Nat.le_of_ble_eq_true rfl, Nat.le_of_ble_eq_true rfl⟩) hK hP hD hG hS hA (va_recv hK (oh_pre_P hP) (ci := 6) (q0 := 0) rfl (oh_wg (by decide) (sX_0 hT))) rfl hl.1 rfl (Nat.le_of_ble_eq_true rfl) dL_law_953 ⟨show cN + 0 ≤ 600000 by omega, show sN + 0 ≤ 7302250 by omega⟩ (fun r_1 C_3 H locs hq_2 hP hD hS => ?_)
  obtain ⟨hT, f_4, hq_2⟩ := hq_2
  have ht2 : gi (C_3 0) 2 = 0 ↔ n = 74 := by rw [show gi (C_3 0) 2 = gi (C 0) 2 from congrArg vi (f_4.2 2 (by decide))]; exact ht2
  have ht3 : ga (C_3 32) = ga (M 7) := Eq.trans (congrArg ga (f_4.1 32 rfl (by decide))) ht3
  have htK := htK.x (fr_all f_4 17 23 (by decide)) (f_4.1 2 rfl (by decide))
  have hAX : absX 10 C_3 A0 := absX_eq hAX (fun k k1 k2 => fr_all f_4 10 15 (by decide) k k1 (by omega))
  have hUX : absTX 1 16 C_3 T0 := absTX_eq hUX (congrArg (fun z => gi z 7) (f_4.1 1 rfl (by decide))) (f_4.1 16 rfl (by decide))
  have hEX := ex_eq hEX (f_4.1 31 rfl (by decide))
  have hSX : absHX C_3 S0 := hx_fr hSX (f_4.1 29 rfl (by decide)) (f_4.1 30 rfl (by decide))
  refine W.widen (k := cN) (n := sN) (Nat.le_refl _) (Nat.le_refl _) ?_
  refine lv_pop hx hb dL_law_956 rfl ?_
  refine lv_aload_n hx hb dL_law_957 rfl (lv_at hl 1 rfl) ?_
  refine lw_cM (As := []) (rest := []) ⟨hx, hb, hml, hown, htg⟩ (c_X7_wipe l D E G _ ma M n hn hTM hR) (cwV 0 htg (oh_gV q_1185 q_1186 q_1187 q_73 q_1188) rfl rfl rfl pdVX7_wipe ⟨Nat.le_of_ble_eq_true rfl, Nat.le_of_ble_eq_true rfl⟩) hK hP hD hG hS hA (va_recv hK (oh_suf_P hP) (ci := 7) (q0 := 0) rfl (oh_wg (by omega) (sM_0 hTM))) rfl hl.1 rfl (Nat.le_of_ble_eq_true rfl) dL_law_958 ⟨show cN + 0 ≤ 600000 by omega, show sN + 0 ≤ 7302250 by omega⟩ (fun r_5 M_7 H locs hq_6 hP hD hS => ?_)
  have hTM0 := hTM
  obtain ⟨hTM, f_8, hR, hq_6⟩ := hq_6
  have hkp := kept_fr hkp f_8 (by decide)
  have ht1 : gi (C_3 5) 1 = gi (M_7 0) 7 := Eq.trans hq_2.2 (Eq.symm hq_6.2)
  have ht3 : ga (C_3 32) = ga (M_7 7) := Eq.trans ht3 (congrArg ga (f_8.1 7 rfl (by decide))).symm
  have htK := htK.m f_8 (by decide)
  have hAM : absM M_7 A0 := absM_fr hAM hTM0 f_8 (by decide) (by decide) (by decide)
  have hUM : absTM M_7 T0 := absTM_eq hUM (f_8.1 14 rfl (by decide)) (congrArg vi (f_8.2 19 (by decide)))
  have hEM := em_eq hEM (fun s hs => f_8.1 (16 + s) (inR_out hs (by decide)) (by omega))
  have hSM : absHM M_7 S0 := hm_fr hSM (f_8.1 1 rfl (by decide)) (f_8.1 2 rfl (by decide)) (f_8.1 3 rfl (by decide)) (f_8.1 6 rfl (by decide))
  refine W.widen (k := cN) (n := sN) (Nat.le_refl _) (Nat.le_refl _) ?_
  refine lv_pop hx hb dL_law_961 rfl ?_
  refine lv_goto (tgt := 2045) hx hb dL_law_962 (by decide) ?_
  exact kk ma C_3 M_7 n (cN) (sN) H locs ls hT hTM hR hkp ht1 ht2 ht3 ⟨_, _, hAX, hAM, hok, hUX, hUM, _, _, hSX, hSM, hEX, hEM⟩ htK (by omega) (by omega) hP hD hS hl

set_option maxHeartbeats 4000000 in
set_option maxRecDepth 100000 in
/-- the law at a call of land -/
theorem lc_land {p : Program} {e : Env} {s : State} {m : MethodId} {below : List Frame} {meth : Method} {c : Code} (l : Launch) {b L : Nat} {xs : Nat → Int32} (C0 : lw_At p s m meth c b L xs) (hL : L ≤ 4096) {D : va_G} {E : Nat → ClassId} {G : Nat → Nat} {A : Nat → Prop} (hAe : A = fun q => s.heap.size ≤ q) (hK : va_K D vwCl (oh_ty E) s) (hG : oh_G G A s) {a : Nat → Nat} {i : Nat} (hi : i + 8 ≤ L) {ma : Nat → Nat} {C M : Nat → va_E} {n cN sN : Nat} (hT : TyX a E C) (hTM : TyM ma E M) (hR : RelM M) (hkp : KEPT E n ma M) (ht1 : gi (C 5) 1 = gi (M 0) 7) (ht2 : gi (C 0) 2 = 0 ↔ n = 74) (ht3 : ga (C 32) = ga (M 7)) (htA : ∃ (A0 : LA) (T0 : TP), absX 10 C A0 ∧ absM M A0 ∧ okA A0 ∧ absTX 1 16 C T0 ∧ absTM M T0 ∧ ∃ (S0 : HZ) (Z0 : EZ), absHX C S0 ∧ absHM M S0 ∧ absEX C S0 Z0 ∧ absEM M S0 Z0) (htK : TIEK n C M) (hcN : cN ≤ 35 + n) (hsN : sN ≤ 1477 + 16 * n) {H : Heap} {locs : List Loc} (hP : va_P D vwCl (oh_W 35 a C ++ oh_W n ma M) H) (hD : va_D A (oh_W 35 a C ++ oh_W n ma M)) (hS : va_S A s.heap H locs) {ls : Array Slot} (hl : lv_has ls 4 [(3, .int (nI i)), (2, .ref (ma 0)), (1, .ref (a 0)), (0, .ref b)]) (kk : ∀ (ma : Nat → Nat) (C M : Nat → va_E) (n cN sN : Nat) (H : Heap) (locs : List Loc) (ls : Array Slot), TyX a E C → TyM ma E M → RelM M → KEPT E n ma M → gi (C 5) 1 = gi (M 0) 7 → (gi (C 0) 2 = 0 ↔ n = 74) → ga (C 32) = ga (M 7) → (∃ (A0 : LA) (T0 : TP), absX 10 C A0 ∧ absM M A0 ∧ okA A0 ∧ absTX 1 16 C T0 ∧ absTM M T0 ∧ ∃ (S0 : HZ) (Z0 : EZ), absHX C S0 ∧ absHM M S0 ∧ absEX C S0 Z0 ∧ absEM M S0 Z0) → TIEK n C M → cN ≤ 35 + n → sN ≤ 1477 + 16 * n → va_P D vwCl (oh_W 35 a C ++ oh_W n ma M) H → va_D A (oh_W 35 a C ++ oh_W n ma M) → va_S A s.heap H locs → lv_has ls 4 [(3, .int (nI i)), (2, .ref (ma 0)), (1, .ref (a 0)), (0, .ref b)] → W p l e room_1 s m #[Value.ref b] below meth c H locs cN sN (lw_Z below #[Value.ref b] s) (F0 m 2045 ls [])) : W p l e room_1 s m #[Value.ref b] below meth c H locs cN sN (lw_Z below #[Value.ref b] s) (F0 m 965 ls []) := by
  obtain ⟨hx, hb, hr, hml, hown, hts, hX, hbl, hlocks, hgv⟩ := id C0
  have hown : s.vm.findClass RL = some m.cls := hown
  have htg : ∀ w ∈ oh_t, w.before _ s = true := fun w h => hts w (List.mem_filter.mp h).1
  have hA : ∀ q, s.heap.size ≤ q → A q := fun q h => by rw [hAe]; exact h
  have hbA : ¬ A b := by rw [hAe]; exact Nat.not_le.mpr hbl
  have hn := hkp.le.1
  have hn8 := hkp.le.2
  have ht10 := ht1
  have ht20 := ht2
  have ht30 := ht3
  obtain ⟨A0, T0, hAX, hAM, hok, hUX, hUM, S0, Z0, hSX, hSM, hEX, hEM⟩ := htA
  have hAX0 := hAX
  have hAM0 := hAM
  have htK0 := htK
  have hSX0 := hSX
  have hSM0 := hSM
  have hEX0 := hEX
  have hEM0 := hEM
  have hUX0 := hUX
  refine lv_aload_n hx hb dL_law_965 rfl (lv_at hl 2 rfl) ?_
  refine lw_cX (As := []) (rest := []) ⟨hx, hb, hml, hown, htg⟩ (e_X6_land l D E G _ a C hT) (cwV 0 htg (oh_gV q_495 q_496 q_497 q_66 q_498) rfl rfl rfl pdVX6_land ⟨Nat.le_of_ble_eq_true rfl, Nat.le_of_ble_eq_true rfl⟩) hK hP hD hG hS hA (va_recv hK (oh_pre_P hP) (ci := 6) (q0 := 0) rfl (oh_wg (by decide) (sX_0 hT))) rfl hl.1 rfl (Nat.le_of_ble_eq_true rfl) dL_law_966 ⟨show cN + 0 ≤ 600000 by omega, show sN + 0 ≤ 7302250 by omega⟩ (fun r_1 C_3 H locs hq_2 hP hD hS => ?_)
  obtain ⟨hT, f_4, hq_2⟩ := hq_2
  have ht2 : gi (C_3 0) 2 = 0 ↔ n = 74 := by rw [show gi (C_3 0) 2 = gi (C 0) 2 from congrArg vi (f_4.2 2 (by decide))]; exact ht2
  have ht3 : ga (C_3 32) = ga (M 7) := Eq.trans (congrArg ga (f_4.1 32 rfl (by decide))) ht3
  have htK := htK.x (fr_all f_4 17 23 (by decide)) (f_4.1 2 rfl (by decide))
  obtain ⟨B1, hL_5, hAX⟩ := hq_2.2 A0 hAX
  rw [ht30, ht10] at hL_5
  have hUX : absTX 1 16 C_3 T0 := absTX_eq hUX (congrArg (fun z => gi z 7) (f_4.1 1 rfl (by decide))) (f_4.1 16 rfl (by decide))
  have hEX := ex_eq hEX (f_4.1 31 rfl (by decide))
  have hSX : absHX C_3 S0 := hx_fr hSX (f_4.1 29 rfl (by decide)) (f_4.1 30 rfl (by decide))
  refine W.widen (k := cN) (n := sN) (Nat.le_refl _) (Nat.le_refl _) ?_
  refine lv_pop hx hb dL_law_969 rfl ?_
  refine lv_aload_n hx hb dL_law_970 rfl (lv_at hl 1 rfl) ?_
  refine lw_cM (As := []) (rest := []) ⟨hx, hb, hml, hown, htg⟩ (e_X7_land l D E G _ ma M n hn hTM hR) (cwV 0 htg (oh_gV q_1189 q_1190 q_1191 q_73 q_1192) rfl rfl rfl pdVX7_land ⟨Nat.le_of_ble_eq_true rfl, Nat.le_of_ble_eq_true rfl⟩) hK hP hD hG hS hA (va_recv hK (oh_suf_P hP) (ci := 7) (q0 := 0) rfl (oh_wg (by omega) (sM_0 hTM))) rfl hl.1 rfl (Nat.le_of_ble_eq_true rfl) dL_law_971 ⟨show cN + 0 ≤ 600000 by omega, show sN + 0 ≤ 7302250 by omega⟩ (fun r_6 M_8 H locs hq_7 hP hD hS => ?_)
  have hTM0 := hTM
  obtain ⟨hTM, f_9, hR, hq_7⟩ := hq_7
  have hkp := kept_fr hkp f_9 (by decide)
  have ht1 : gi (C_3 5) 1 = gi (M_8 0) 7 := Eq.trans hq_2.1 (Eq.symm hq_7.1)
  have ht3 : ga (C_3 32) = ga (M_8 7) := Eq.trans ht3 (congrArg ga (f_9.1 7 rfl (by decide))).symm
  have htK := htK.m f_9 (by decide)
  obtain ⟨B2, hL_10, hAM⟩ := hq_7.2 A0 hAM
  obtain ⟨hB_11, hBB⟩ := landR_u hL_5 hL_10
  subst hBB
  have hok := ok_land hok hL_5
  have hUM : absTM M_8 T0 := absTM_eq hUM (f_9.1 14 rfl (by decide)) (congrArg vi (f_9.2 19 (by decide)))
  have hEM := em_eq hEM (fun s hs => f_9.1 (16 + s) (inR_out hs (by decide)) (by omega))
  have hSM : absHM M_8 S0 := hm_fr hSM (f_9.1 1 rfl (by decide)) (f_9.1 2 rfl (by decide)) (f_9.1 3 rfl (by decide)) (f_9.1 6 rfl (by decide))
  refine W.widen (k := cN) (n := sN) (Nat.le_refl _) (Nat.le_refl _) ?_
  refine lv_pop hx hb dL_law_974 rfl ?_
  refine lv_goto (tgt := 2045) hx hb dL_law_975 (by decide) ?_
  exact kk ma C_3 M_8 n (cN) (sN) H locs ls hT hTM hR hkp ht1 ht2 ht3 ⟨_, _, hAX, hAM, hok, hUX, hUM, _, _, hSX, hSM, hEX, hEM⟩ htK (by omega) (by omega) hP hD hS hl

set_option maxHeartbeats 4000000 in
set_option maxRecDepth 100000 in
/-- the law at a call of roadOf -/
theorem lc_roadOf {p : Program} {e : Env} {s : State} {m : MethodId} {below : List Frame} {meth : Method} {c : Code} (l : Launch) {b L : Nat} {xs : Nat → Int32} (C0 : lw_At p s m meth c b L xs) (hL : L ≤ 4096) {D : va_G} {E : Nat → ClassId} {G : Nat → Nat} {A : Nat → Prop} (hAe : A = fun q => s.heap.size ≤ q) (hK : va_K D vwCl (oh_ty E) s) (hG : oh_G G A s) {a : Nat → Nat} {i : Nat} (hi : i + 8 ≤ L) {ma : Nat → Nat} {C M : Nat → va_E} {n cN sN : Nat} (hT : TyX a E C) (hTM : TyM ma E M) (hR : RelM M) (hkp : KEPT E n ma M) (ht1 : gi (C 5) 1 = gi (M 0) 7) (ht2 : gi (C 0) 2 = 0 ↔ n = 74) (ht3 : ga (C 32) = ga (M 7)) (htA : ∃ (A0 : LA) (T0 : TP), absX 10 C A0 ∧ absM M A0 ∧ okA A0 ∧ absTX 1 16 C T0 ∧ absTM M T0 ∧ ∃ (S0 : HZ) (Z0 : EZ), absHX C S0 ∧ absHM M S0 ∧ absEX C S0 Z0 ∧ absEM M S0 Z0) (htK : TIEK n C M) (hcN : cN ≤ 35 + n) (hsN : sN ≤ 1477 + 16 * n) {H : Heap} {locs : List Loc} (hP : va_P D vwCl (oh_W 35 a C ++ oh_W n ma M) H) (hD : va_D A (oh_W 35 a C ++ oh_W n ma M)) (hS : va_S A s.heap H locs) {ls : Array Slot} (hl : lv_has ls 4 [(3, .int (nI i)), (2, .ref (ma 0)), (1, .ref (a 0)), (0, .ref b)]) (kk : ∀ (ma : Nat → Nat) (C M : Nat → va_E) (n cN sN : Nat) (H : Heap) (locs : List Loc) (ls : Array Slot), TyX a E C → TyM ma E M → RelM M → KEPT E n ma M → gi (C 5) 1 = gi (M 0) 7 → (gi (C 0) 2 = 0 ↔ n = 74) → ga (C 32) = ga (M 7) → (∃ (A0 : LA) (T0 : TP), absX 10 C A0 ∧ absM M A0 ∧ okA A0 ∧ absTX 1 16 C T0 ∧ absTM M T0 ∧ ∃ (S0 : HZ) (Z0 : EZ), absHX C S0 ∧ absHM M S0 ∧ absEX C S0 Z0 ∧ absEM M S0 Z0) → TIEK n C M → cN ≤ 35 + n → sN ≤ 1477 + 16 * n → va_P D vwCl (oh_W 35 a C ++ oh_W n ma M) H → va_D A (oh_W 35 a C ++ oh_W n ma M) → va_S A s.heap H locs → lv_has ls 4 [(3, .int (nI i)), (2, .ref (ma 0)), (1, .ref (a 0)), (0, .ref b)] → W p l e room_1 s m #[Value.ref b] below meth c H locs cN sN (lw_Z below #[Value.ref b] s) (F0 m 2045 ls [])) : W p l e room_1 s m #[Value.ref b] below meth c H locs cN sN (lw_Z below #[Value.ref b] s) (F0 m 978 ls []) := by
  obtain ⟨hx, hb, hr, hml, hown, hts, hX, hbl, hlocks, hgv⟩ := id C0
  have hown : s.vm.findClass RL = some m.cls := hown
  have htg : ∀ w ∈ oh_t, w.before _ s = true := fun w h => hts w (List.mem_filter.mp h).1
  have hA : ∀ q, s.heap.size ≤ q → A q := fun q h => by rw [hAe]; exact h
  have hbA : ¬ A b := by rw [hAe]; exact Nat.not_le.mpr hbl
  have hn := hkp.le.1
  have hn8 := hkp.le.2
  have ht10 := ht1
  have ht20 := ht2
  have ht30 := ht3
  obtain ⟨A0, T0, hAX, hAM, hok, hUX, hUM, S0, Z0, hSX, hSM, hEX, hEM⟩ := htA
  have hAX0 := hAX
  have hAM0 := hAM
  have htK0 := htK
  have hSX0 := hSX
  have hSM0 := hSM
  have hEX0 := hEX
  have hEM0 := hEM
  have hUX0 := hUX
  refine lv_aload_n hx hb dL_law_978 rfl (lv_at hl 2 rfl) ?_
  refine lv_aload_n hx hb dL_law_979 rfl (lv_at hl 3 rfl) ?_
  refine lv_iload_n hx hb dL_law_980 rfl (lv_at hl 0 rfl) ?_
  refine lv_iconst (v := 1) hx hb dL_law_981 (by decide) ?_
  refine lv_iadd hx hb dL_law_982 ?_
  refine va_sld hx hb hX hbl hbA hS (lw_ix hi hL (rg_c (v := 1) (lo := 1) (hi := 1) (by decide)) (by decide)) dL_law_983 ?_
  refine lv_aload_n hx hb dL_law_984 rfl (lv_at hl 3 rfl) ?_
  refine lv_iload_n hx hb dL_law_985 rfl (lv_at hl 0 rfl) ?_
  refine lv_iconst (v := 2) hx hb dL_law_986 (by decide) ?_
  refine lv_iadd hx hb dL_law_987 ?_
  refine va_sld hx hb hX hbl hbA hS (lw_ix hi hL (rg_c (v := 2) (lo := 2) (hi := 2) (by decide)) (by decide)) dL_law_988 ?_
  refine lw_cX (As := [.int (xs ((nI i) + 1).toNatClampNeg), .int (xs ((nI i) + 2).toNatClampNeg)]) (rest := []) ⟨hx, hb, hml, hown, htg⟩ (e_X6_roadOf l D E G _ a C hT (xs ((nI i) + 1).toNatClampNeg) (xs ((nI i) + 2).toNatClampNeg)) (cwV 2 htg (oh_gV q_663 q_664 q_665 q_66 q_666) rfl rfl rfl pdVX6_roadOf ⟨Nat.le_of_ble_eq_true rfl, Nat.le_of_ble_eq_true rfl⟩) hK hP hD hG hS hA (va_recv hK (oh_pre_P hP) (ci := 6) (q0 := 0) rfl (oh_wg (by decide) (sX_0 hT))) rfl hl.1 rfl (Nat.le_of_ble_eq_true rfl) dL_law_989 ⟨show cN + 0 ≤ 600000 by omega, show sN + 0 ≤ 7302250 by omega⟩ (fun r_1 C_3 H locs hq_2 hP hD hS => ?_)
  obtain ⟨hT, f_4, hq_2⟩ := hq_2
  have ht1 : gi (C_3 5) 1 = gi (M 0) 7 := by rw [f_4.1 5 rfl (by decide)]; exact ht1
  have ht2 : gi (C_3 0) 2 = 0 ↔ n = 74 := by rw [show gi (C_3 0) 2 = gi (C 0) 2 from congrArg vi (f_4.2 2 (by decide))]; exact ht2
  have ht3 : ga (C_3 32) = ga (M 7) := Eq.trans (congrArg ga (f_4.1 32 rfl (by decide))) ht3
  have htK := htK.x (fr_all f_4 17 23 (by decide)) (f_4.1 2 rfl (by decide))
  have hX_5 := hq_2 A0 hAX0
  have hAX : absX 10 C_3 A0 := absX_eq hAX (fun k k1 k2 => fr_all f_4 10 15 (by decide) k k1 (by omega))
  have hUX : absTX 1 16 C_3 T0 := absTX_eq hUX (congrArg (fun z => gi z 7) (f_4.1 1 rfl (by decide))) (f_4.1 16 rfl (by decide))
  have hEX := ex_eq hEX (f_4.1 31 rfl (by decide))
  have hSX : absHX C_3 S0 := hx_fr hSX (f_4.1 29 rfl (by decide)) (f_4.1 30 rfl (by decide))
  refine W.widen (k := cN) (n := sN) (Nat.le_refl _) (Nat.le_refl _) ?_
  refine lv_pop hx hb dL_law_992 rfl ?_
  refine lv_aload_n hx hb dL_law_993 rfl (lv_at hl 1 rfl) ?_
  refine lv_aload_n hx hb dL_law_994 rfl (lv_at hl 3 rfl) ?_
  refine lv_iload_n hx hb dL_law_995 rfl (lv_at hl 0 rfl) ?_
  refine lv_iconst (v := 1) hx hb dL_law_996 (by decide) ?_
  refine lv_iadd hx hb dL_law_997 ?_
  refine va_sld hx hb hX hbl hbA hS (lw_ix hi hL (rg_c (v := 1) (lo := 1) (hi := 1) (by decide)) (by decide)) dL_law_998 ?_
  refine lv_aload_n hx hb dL_law_999 rfl (lv_at hl 3 rfl) ?_
  refine lv_iload_n hx hb dL_law_1000 rfl (lv_at hl 0 rfl) ?_
  refine lv_iconst (v := 2) hx hb dL_law_1001 (by decide) ?_
  refine lv_iadd hx hb dL_law_1002 ?_
  refine va_sld hx hb hX hbl hbA hS (lw_ix hi hL (rg_c (v := 2) (lo := 2) (hi := 2) (by decide)) (by decide)) dL_law_1003 ?_
  refine lw_cM (As := [.int (xs ((nI i) + 1).toNatClampNeg), .int (xs ((nI i) + 2).toNatClampNeg)]) (rest := []) ⟨hx, hb, hml, hown, htg⟩ (e_X7_roadOf l D E G _ ma M n hn hTM (xs ((nI i) + 1).toNatClampNeg) (xs ((nI i) + 2).toNatClampNeg) hR) (cwV 2 htg (oh_gV q_1261 q_1262 q_1263 q_73 q_1264) rfl rfl rfl pdVX7_roadOf ⟨Nat.le_of_ble_eq_true rfl, Nat.le_of_ble_eq_true rfl⟩) hK hP hD hG hS hA (va_recv hK (oh_suf_P hP) (ci := 7) (q0 := 0) rfl (oh_wg (by omega) (sM_0 hTM))) rfl hl.1 rfl (Nat.le_of_ble_eq_true rfl) dL_law_1004 ⟨show cN + 0 ≤ 600000 by omega, show sN + 0 ≤ 7302250 by omega⟩ (fun r_6 M_8 H locs hq_7 hP hD hS => ?_)
  have hTM0 := hTM
  obtain ⟨hTM, f_9, hR, hq_7⟩ := hq_7
  have hkp := kept_fr hkp f_9 (by decide)
  have ht1 : gi (C_3 5) 1 = gi (M_8 0) 7 := by rw [show gi (M_8 0) 7 = gi (M 0) 7 from congrArg vi (f_9.2 7 (by decide))]; exact ht1
  have ht3 : ga (C_3 32) = ga (M_8 7) := Eq.trans ht3 (congrArg ga (f_9.1 7 rfl (by decide))).symm
  have htK := htK.m f_9 (by decide)
  have hM_10 := hq_7 A0 hAM0
  have hAM : absM M_8 A0 := absM_fr hAM hTM0 f_9 (by decide) (by decide) (by decide)
  have hUM : absTM M_8 T0 := absTM_eq hUM (f_9.1 14 rfl (by decide)) (congrArg vi (f_9.2 19 (by decide)))
  have hEM := em_eq hEM (fun s hs => f_9.1 (16 + s) (inR_out hs (by decide)) (by omega))
  have hSM : absHM M_8 S0 := hm_fr hSM (f_9.1 1 rfl (by decide)) (f_9.1 2 rfl (by decide)) (f_9.1 3 rfl (by decide)) (f_9.1 6 rfl (by decide))
  refine W.widen (k := cN) (n := sN) (Nat.le_refl _) (Nat.le_refl _) ?_
  refine lv_pop hx hb dL_law_1007 rfl ?_
  refine lv_goto (tgt := 2045) hx hb dL_law_1008 (by decide) ?_
  exact kk ma C_3 M_8 n (cN) (sN) H locs ls hT hTM hR hkp ht1 ht2 ht3 ⟨_, _, hAX, hAM, hok, hUX, hUM, _, _, hSX, hSM, hEX, hEM⟩ htK (by omega) (by omega) hP hD hS hl

set_option maxHeartbeats 4000000 in
set_option maxRecDepth 100000 in
/-- the law at a call of bridgeOf -/
theorem lc_bridgeOf {p : Program} {e : Env} {s : State} {m : MethodId} {below : List Frame} {meth : Method} {c : Code} (l : Launch) {b L : Nat} {xs : Nat → Int32} (C0 : lw_At p s m meth c b L xs) (hL : L ≤ 4096) {D : va_G} {E : Nat → ClassId} {G : Nat → Nat} {A : Nat → Prop} (hAe : A = fun q => s.heap.size ≤ q) (hK : va_K D vwCl (oh_ty E) s) (hG : oh_G G A s) {a : Nat → Nat} {i : Nat} (hi : i + 8 ≤ L) {ma : Nat → Nat} {C M : Nat → va_E} {n cN sN : Nat} (hT : TyX a E C) (hTM : TyM ma E M) (hR : RelM M) (hkp : KEPT E n ma M) (ht1 : gi (C 5) 1 = gi (M 0) 7) (ht2 : gi (C 0) 2 = 0 ↔ n = 74) (ht3 : ga (C 32) = ga (M 7)) (htA : ∃ (A0 : LA) (T0 : TP), absX 10 C A0 ∧ absM M A0 ∧ okA A0 ∧ absTX 1 16 C T0 ∧ absTM M T0 ∧ ∃ (S0 : HZ) (Z0 : EZ), absHX C S0 ∧ absHM M S0 ∧ absEX C S0 Z0 ∧ absEM M S0 Z0) (htK : TIEK n C M) (hcN : cN ≤ 35 + n) (hsN : sN ≤ 1477 + 16 * n) {H : Heap} {locs : List Loc} (hP : va_P D vwCl (oh_W 35 a C ++ oh_W n ma M) H) (hD : va_D A (oh_W 35 a C ++ oh_W n ma M)) (hS : va_S A s.heap H locs) {ls : Array Slot} (hl : lv_has ls 4 [(3, .int (nI i)), (2, .ref (ma 0)), (1, .ref (a 0)), (0, .ref b)]) (kk : ∀ (ma : Nat → Nat) (C M : Nat → va_E) (n cN sN : Nat) (H : Heap) (locs : List Loc) (ls : Array Slot), TyX a E C → TyM ma E M → RelM M → KEPT E n ma M → gi (C 5) 1 = gi (M 0) 7 → (gi (C 0) 2 = 0 ↔ n = 74) → ga (C 32) = ga (M 7) → (∃ (A0 : LA) (T0 : TP), absX 10 C A0 ∧ absM M A0 ∧ okA A0 ∧ absTX 1 16 C T0 ∧ absTM M T0 ∧ ∃ (S0 : HZ) (Z0 : EZ), absHX C S0 ∧ absHM M S0 ∧ absEX C S0 Z0 ∧ absEM M S0 Z0) → TIEK n C M → cN ≤ 35 + n → sN ≤ 1477 + 16 * n → va_P D vwCl (oh_W 35 a C ++ oh_W n ma M) H → va_D A (oh_W 35 a C ++ oh_W n ma M) → va_S A s.heap H locs → lv_has ls 4 [(3, .int (nI i)), (2, .ref (ma 0)), (1, .ref (a 0)), (0, .ref b)] → W p l e room_1 s m #[Value.ref b] below meth c H locs cN sN (lw_Z below #[Value.ref b] s) (F0 m 2045 ls [])) : W p l e room_1 s m #[Value.ref b] below meth c H locs cN sN (lw_Z below #[Value.ref b] s) (F0 m 1011 ls []) := by
  obtain ⟨hx, hb, hr, hml, hown, hts, hX, hbl, hlocks, hgv⟩ := id C0
  have hown : s.vm.findClass RL = some m.cls := hown
  have htg : ∀ w ∈ oh_t, w.before _ s = true := fun w h => hts w (List.mem_filter.mp h).1
  have hA : ∀ q, s.heap.size ≤ q → A q := fun q h => by rw [hAe]; exact h
  have hbA : ¬ A b := by rw [hAe]; exact Nat.not_le.mpr hbl
  have hn := hkp.le.1
  have hn8 := hkp.le.2
  have ht10 := ht1
  have ht20 := ht2
  have ht30 := ht3
  obtain ⟨A0, T0, hAX, hAM, hok, hUX, hUM, S0, Z0, hSX, hSM, hEX, hEM⟩ := htA
  have hAX0 := hAX
  have hAM0 := hAM
  have htK0 := htK
  have hSX0 := hSX
  have hSM0 := hSM
  have hEX0 := hEX
  have hEM0 := hEM
  have hUX0 := hUX
  refine lv_aload_n hx hb dL_law_1011 rfl (lv_at hl 2 rfl) ?_
  refine lv_aload_n hx hb dL_law_1012 rfl (lv_at hl 3 rfl) ?_
  refine lv_iload_n hx hb dL_law_1013 rfl (lv_at hl 0 rfl) ?_
  refine lv_iconst (v := 1) hx hb dL_law_1014 (by decide) ?_
  refine lv_iadd hx hb dL_law_1015 ?_
  refine va_sld hx hb hX hbl hbA hS (lw_ix hi hL (rg_c (v := 1) (lo := 1) (hi := 1) (by decide)) (by decide)) dL_law_1016 ?_
  refine lv_aload_n hx hb dL_law_1017 rfl (lv_at hl 3 rfl) ?_
  refine lv_iload_n hx hb dL_law_1018 rfl (lv_at hl 0 rfl) ?_
  refine lv_iconst (v := 2) hx hb dL_law_1019 (by decide) ?_
  refine lv_iadd hx hb dL_law_1020 ?_
  refine va_sld hx hb hX hbl hbA hS (lw_ix hi hL (rg_c (v := 2) (lo := 2) (hi := 2) (by decide)) (by decide)) dL_law_1021 ?_
  refine lw_cX (As := [.int (xs ((nI i) + 1).toNatClampNeg), .int (xs ((nI i) + 2).toNatClampNeg)]) (rest := []) ⟨hx, hb, hml, hown, htg⟩ (e_X6_bridgeOf l D E G _ a C hT (xs ((nI i) + 1).toNatClampNeg) (xs ((nI i) + 2).toNatClampNeg)) (cwV 2 htg (oh_gV q_667 q_668 q_669 q_66 q_670) rfl rfl rfl pdVX6_bridgeOf ⟨Nat.le_of_ble_eq_true rfl, Nat.le_of_ble_eq_true rfl⟩) hK hP hD hG hS hA (va_recv hK (oh_pre_P hP) (ci := 6) (q0 := 0) rfl (oh_wg (by decide) (sX_0 hT))) rfl hl.1 rfl (Nat.le_of_ble_eq_true rfl) dL_law_1022 ⟨show cN + 0 ≤ 600000 by omega, show sN + 0 ≤ 7302250 by omega⟩ (fun r_1 C_3 H locs hq_2 hP hD hS => ?_)
  obtain ⟨hT, f_4, hq_2⟩ := hq_2
  have ht1 : gi (C_3 5) 1 = gi (M 0) 7 := by rw [f_4.1 5 rfl (by decide)]; exact ht1
  have ht2 : gi (C_3 0) 2 = 0 ↔ n = 74 := by rw [show gi (C_3 0) 2 = gi (C 0) 2 from congrArg vi (f_4.2 2 (by decide))]; exact ht2
  have ht3 : ga (C_3 32) = ga (M 7) := Eq.trans (congrArg ga (f_4.1 32 rfl (by decide))) ht3
  have htK := htK.x (fr_all f_4 17 23 (by decide)) (f_4.1 2 rfl (by decide))
  have hX_5 := hq_2 A0 hAX0 hok
  have hAX : absX 10 C_3 A0 := absX_eq hAX (fun k k1 k2 => fr_all f_4 10 15 (by decide) k k1 (by omega))
  have hUX : absTX 1 16 C_3 T0 := absTX_eq hUX (congrArg (fun z => gi z 7) (f_4.1 1 rfl (by decide))) (f_4.1 16 rfl (by decide))
  have hEX := ex_eq hEX (f_4.1 31 rfl (by decide))
  have hSX : absHX C_3 S0 := hx_fr hSX (f_4.1 29 rfl (by decide)) (f_4.1 30 rfl (by decide))
  refine W.widen (k := cN) (n := sN) (Nat.le_refl _) (Nat.le_refl _) ?_
  refine lv_pop hx hb dL_law_1025 rfl ?_
  refine lv_aload_n hx hb dL_law_1026 rfl (lv_at hl 1 rfl) ?_
  refine lv_aload_n hx hb dL_law_1027 rfl (lv_at hl 3 rfl) ?_
  refine lv_iload_n hx hb dL_law_1028 rfl (lv_at hl 0 rfl) ?_
  refine lv_iconst (v := 1) hx hb dL_law_1029 (by decide) ?_
  refine lv_iadd hx hb dL_law_1030 ?_
  refine va_sld hx hb hX hbl hbA hS (lw_ix hi hL (rg_c (v := 1) (lo := 1) (hi := 1) (by decide)) (by decide)) dL_law_1031 ?_
  refine lv_aload_n hx hb dL_law_1032 rfl (lv_at hl 3 rfl) ?_
  refine lv_iload_n hx hb dL_law_1033 rfl (lv_at hl 0 rfl) ?_
  refine lv_iconst (v := 2) hx hb dL_law_1034 (by decide) ?_
  refine lv_iadd hx hb dL_law_1035 ?_
  refine va_sld hx hb hX hbl hbA hS (lw_ix hi hL (rg_c (v := 2) (lo := 2) (hi := 2) (by decide)) (by decide)) dL_law_1036 ?_
  refine lw_cM (As := [.int (xs ((nI i) + 1).toNatClampNeg), .int (xs ((nI i) + 2).toNatClampNeg)]) (rest := []) ⟨hx, hb, hml, hown, htg⟩ (e_X7_bridgeOf l D E G _ ma M n hn hTM (xs ((nI i) + 1).toNatClampNeg) (xs ((nI i) + 2).toNatClampNeg) hR) (cwV 2 htg (oh_gV q_1266 q_1267 q_1268 q_73 q_1269) rfl rfl rfl pdVX7_bridgeOf ⟨Nat.le_of_ble_eq_true rfl, Nat.le_of_ble_eq_true rfl⟩) hK hP hD hG hS hA (va_recv hK (oh_suf_P hP) (ci := 7) (q0 := 0) rfl (oh_wg (by omega) (sM_0 hTM))) rfl hl.1 rfl (Nat.le_of_ble_eq_true rfl) dL_law_1037 ⟨show cN + 0 ≤ 600000 by omega, show sN + 0 ≤ 7302250 by omega⟩ (fun r_6 M_8 H locs hq_7 hP hD hS => ?_)
  have hTM0 := hTM
  obtain ⟨hTM, f_9, hR, hq_7⟩ := hq_7
  have hkp := kept_fr hkp f_9 (by decide)
  have ht1 : gi (C_3 5) 1 = gi (M_8 0) 7 := by rw [show gi (M_8 0) 7 = gi (M 0) 7 from congrArg vi (f_9.2 7 (by decide))]; exact ht1
  have ht3 : ga (C_3 32) = ga (M_8 7) := Eq.trans ht3 (congrArg ga (f_9.1 7 rfl (by decide))).symm
  have htK := htK.m f_9 (by decide)
  have hM_10 := hq_7 A0 hAM0 hok
  have hAM : absM M_8 A0 := absM_fr hAM hTM0 f_9 (by decide) (by decide) (by decide)
  have hUM : absTM M_8 T0 := absTM_eq hUM (f_9.1 14 rfl (by decide)) (congrArg vi (f_9.2 19 (by decide)))
  have hEM := em_eq hEM (fun s hs => f_9.1 (16 + s) (inR_out hs (by decide)) (by omega))
  have hSM : absHM M_8 S0 := hm_fr hSM (f_9.1 1 rfl (by decide)) (f_9.1 2 rfl (by decide)) (f_9.1 3 rfl (by decide)) (f_9.1 6 rfl (by decide))
  refine W.widen (k := cN) (n := sN) (Nat.le_refl _) (Nat.le_refl _) ?_
  refine lv_pop hx hb dL_law_1040 rfl ?_
  refine lv_goto (tgt := 2045) hx hb dL_law_1041 (by decide) ?_
  exact kk ma C_3 M_8 n (cN) (sN) H locs ls hT hTM hR hkp ht1 ht2 ht3 ⟨_, _, hAX, hAM, hok, hUX, hUM, _, _, hSX, hSM, hEX, hEM⟩ htK (by omega) (by omega) hP hD hS hl

set_option maxHeartbeats 4000000 in
set_option maxRecDepth 100000 in
/-- the law at a call of bears -/
theorem lc_bears {p : Program} {e : Env} {s : State} {m : MethodId} {below : List Frame} {meth : Method} {c : Code} (l : Launch) {b L : Nat} {xs : Nat → Int32} (C0 : lw_At p s m meth c b L xs) (hL : L ≤ 4096) {D : va_G} {E : Nat → ClassId} {G : Nat → Nat} {A : Nat → Prop} (hAe : A = fun q => s.heap.size ≤ q) (hK : va_K D vwCl (oh_ty E) s) (hG : oh_G G A s) {a : Nat → Nat} {i : Nat} (hi : i + 8 ≤ L) {ma : Nat → Nat} {C M : Nat → va_E} {n cN sN : Nat} (hT : TyX a E C) (hTM : TyM ma E M) (hR : RelM M) (hkp : KEPT E n ma M) (ht1 : gi (C 5) 1 = gi (M 0) 7) (ht2 : gi (C 0) 2 = 0 ↔ n = 74) (ht3 : ga (C 32) = ga (M 7)) (htA : ∃ (A0 : LA) (T0 : TP), absX 10 C A0 ∧ absM M A0 ∧ okA A0 ∧ absTX 1 16 C T0 ∧ absTM M T0 ∧ ∃ (S0 : HZ) (Z0 : EZ), absHX C S0 ∧ absHM M S0 ∧ absEX C S0 Z0 ∧ absEM M S0 Z0) (htK : TIEK n C M) (hcN : cN ≤ 35 + n) (hsN : sN ≤ 1477 + 16 * n) {H : Heap} {locs : List Loc} (hP : va_P D vwCl (oh_W 35 a C ++ oh_W n ma M) H) (hD : va_D A (oh_W 35 a C ++ oh_W n ma M)) (hS : va_S A s.heap H locs) {ls : Array Slot} (hl : lv_has ls 4 [(3, .int (nI i)), (2, .ref (ma 0)), (1, .ref (a 0)), (0, .ref b)]) (kk : ∀ (ma : Nat → Nat) (C M : Nat → va_E) (n cN sN : Nat) (H : Heap) (locs : List Loc) (ls : Array Slot), TyX a E C → TyM ma E M → RelM M → KEPT E n ma M → gi (C 5) 1 = gi (M 0) 7 → (gi (C 0) 2 = 0 ↔ n = 74) → ga (C 32) = ga (M 7) → (∃ (A0 : LA) (T0 : TP), absX 10 C A0 ∧ absM M A0 ∧ okA A0 ∧ absTX 1 16 C T0 ∧ absTM M T0 ∧ ∃ (S0 : HZ) (Z0 : EZ), absHX C S0 ∧ absHM M S0 ∧ absEX C S0 Z0 ∧ absEM M S0 Z0) → TIEK n C M → cN ≤ 35 + n → sN ≤ 1477 + 16 * n → va_P D vwCl (oh_W 35 a C ++ oh_W n ma M) H → va_D A (oh_W 35 a C ++ oh_W n ma M) → va_S A s.heap H locs → lv_has ls 4 [(3, .int (nI i)), (2, .ref (ma 0)), (1, .ref (a 0)), (0, .ref b)] → W p l e room_1 s m #[Value.ref b] below meth c H locs cN sN (lw_Z below #[Value.ref b] s) (F0 m 2045 ls [])) : W p l e room_1 s m #[Value.ref b] below meth c H locs cN sN (lw_Z below #[Value.ref b] s) (F0 m 1044 ls []) := by
  obtain ⟨hx, hb, hr, hml, hown, hts, hX, hbl, hlocks, hgv⟩ := id C0
  have hown : s.vm.findClass RL = some m.cls := hown
  have htg : ∀ w ∈ oh_t, w.before _ s = true := fun w h => hts w (List.mem_filter.mp h).1
  have hA : ∀ q, s.heap.size ≤ q → A q := fun q h => by rw [hAe]; exact h
  have hbA : ¬ A b := by rw [hAe]; exact Nat.not_le.mpr hbl
  have hn := hkp.le.1
  have hn8 := hkp.le.2
  have ht10 := ht1
  have ht20 := ht2
  have ht30 := ht3
  obtain ⟨A0, T0, hAX, hAM, hok, hUX, hUM, S0, Z0, hSX, hSM, hEX, hEM⟩ := htA
  have hAX0 := hAX
  have hAM0 := hAM
  have htK0 := htK
  have hSX0 := hSX
  have hSM0 := hSM
  have hEX0 := hEX
  have hEM0 := hEM
  have hUX0 := hUX
  refine lv_aload_n hx hb dL_law_1044 rfl (lv_at hl 2 rfl) ?_
  refine lv_aload_n hx hb dL_law_1045 rfl (lv_at hl 3 rfl) ?_
  refine lv_iload_n hx hb dL_law_1046 rfl (lv_at hl 0 rfl) ?_
  refine lv_iconst (v := 1) hx hb dL_law_1047 (by decide) ?_
  refine lv_iadd hx hb dL_law_1048 ?_
  refine va_sld hx hb hX hbl hbA hS (lw_ix hi hL (rg_c (v := 1) (lo := 1) (hi := 1) (by decide)) (by decide)) dL_law_1049 ?_
  refine lv_aload_n hx hb dL_law_1050 rfl (lv_at hl 3 rfl) ?_
  refine lv_iload_n hx hb dL_law_1051 rfl (lv_at hl 0 rfl) ?_
  refine lv_iconst (v := 2) hx hb dL_law_1052 (by decide) ?_
  refine lv_iadd hx hb dL_law_1053 ?_
  refine va_sld hx hb hX hbl hbA hS (lw_ix hi hL (rg_c (v := 2) (lo := 2) (hi := 2) (by decide)) (by decide)) dL_law_1054 ?_
  refine lv_if_eq (tgt := 1062) hx hb dL_law_1055 (by decide) (fun (c_1 : (xs ((nI i) + 2).toNatClampNeg) = 0) => ?_) (fun (c_1 : ¬ ((xs ((nI i) + 2).toNatClampNeg) = 0)) => ?_)
  · refine lv_iconst (v := 0) hx hb dL_law_1062 (by decide) ?_
    refine lw_cX (As := [.int (xs ((nI i) + 1).toNatClampNeg), .int 0]) (rest := []) ⟨hx, hb, hml, hown, htg⟩ (e_X6_bears l D E G _ a C hT (xs ((nI i) + 1).toNatClampNeg) (0 : Int32) (rg_c (v := 0) (lo := 0) (hi := 1) (by decide))) (cwV 2 htg (oh_gV q_671 q_672 q_673 q_66 q_674) rfl rfl rfl pdVX6_bears ⟨Nat.le_of_ble_eq_true rfl, Nat.le_of_ble_eq_true rfl⟩) hK hP hD hG hS hA (va_recv hK (oh_pre_P hP) (ci := 6) (q0 := 0) rfl (oh_wg (by decide) (sX_0 hT))) rfl hl.1 rfl (Nat.le_of_ble_eq_true rfl) dL_law_1063 ⟨show cN + 0 ≤ 600000 by omega, show sN + 0 ≤ 7302250 by omega⟩ (fun r_2 C_4 H locs hq_3 hP hD hS => ?_)
    obtain ⟨hT, f_5, hq_3⟩ := hq_3
    have ht1 : gi (C_4 5) 1 = gi (M 0) 7 := by rw [f_5.1 5 rfl (by decide)]; exact ht1
    have ht2 : gi (C_4 0) 2 = 0 ↔ n = 74 := by rw [show gi (C_4 0) 2 = gi (C 0) 2 from congrArg vi (f_5.2 2 (by decide))]; exact ht2
    have ht3 : ga (C_4 32) = ga (M 7) := Eq.trans (congrArg ga (f_5.1 32 rfl (by decide))) ht3
    have htK := htK.x (fr_all f_5 17 23 (by decide)) (f_5.1 2 rfl (by decide))
    have hX_6 := hq_3 A0 hAX0 hok
    have hAX : absX 10 C_4 A0 := absX_eq hAX (fun k k1 k2 => fr_all f_5 10 15 (by decide) k k1 (by omega))
    have hUX : absTX 1 16 C_4 T0 := absTX_eq hUX (congrArg (fun z => gi z 7) (f_5.1 1 rfl (by decide))) (f_5.1 16 rfl (by decide))
    have hEX := ex_eq hEX (f_5.1 31 rfl (by decide))
    have hSX : absHX C_4 S0 := hx_fr hSX (f_5.1 29 rfl (by decide)) (f_5.1 30 rfl (by decide))
    refine W.widen (k := cN) (n := sN) (Nat.le_refl _) (Nat.le_refl _) ?_
    refine lv_pop hx hb dL_law_1066 rfl ?_
    refine lv_aload_n hx hb dL_law_1067 rfl (lv_at hl 1 rfl) ?_
    refine lv_aload_n hx hb dL_law_1068 rfl (lv_at hl 3 rfl) ?_
    refine lv_iload_n hx hb dL_law_1069 rfl (lv_at hl 0 rfl) ?_
    refine lv_iconst (v := 1) hx hb dL_law_1070 (by decide) ?_
    refine lv_iadd hx hb dL_law_1071 ?_
    refine va_sld hx hb hX hbl hbA hS (lw_ix hi hL (rg_c (v := 1) (lo := 1) (hi := 1) (by decide)) (by decide)) dL_law_1072 ?_
    refine lv_aload_n hx hb dL_law_1073 rfl (lv_at hl 3 rfl) ?_
    refine lv_iload_n hx hb dL_law_1074 rfl (lv_at hl 0 rfl) ?_
    refine lv_iconst (v := 2) hx hb dL_law_1075 (by decide) ?_
    refine lv_iadd hx hb dL_law_1076 ?_
    refine va_sld hx hb hX hbl hbA hS (lw_ix hi hL (rg_c (v := 2) (lo := 2) (hi := 2) (by decide)) (by decide)) dL_law_1077 ?_
    refine lv_if_eq (tgt := 1085) hx hb dL_law_1078 (by decide) (fun (c_7 : (xs ((nI i) + 2).toNatClampNeg) = 0) => ?_) (fun (c_7 : ¬ ((xs ((nI i) + 2).toNatClampNeg) = 0)) => ?_)
    · refine lv_iconst (v := 0) hx hb dL_law_1085 (by decide) ?_
      refine lw_cM (As := [.int (xs ((nI i) + 1).toNatClampNeg), .int 0]) (rest := []) ⟨hx, hb, hml, hown, htg⟩ (e_X7_bears l D E G _ ma M n hn hTM (xs ((nI i) + 1).toNatClampNeg) (0 : Int32) (rg_c (v := 0) (lo := 0) (hi := 1) (by decide)) hR) (cwV 2 htg (oh_gV q_1270 q_1271 q_1272 q_73 q_1273) rfl rfl rfl pdVX7_bears ⟨Nat.le_of_ble_eq_true rfl, Nat.le_of_ble_eq_true rfl⟩) hK hP hD hG hS hA (va_recv hK (oh_suf_P hP) (ci := 7) (q0 := 0) rfl (oh_wg (by omega) (sM_0 hTM))) rfl hl.1 rfl (Nat.le_of_ble_eq_true rfl) dL_law_1086 ⟨show cN + 0 ≤ 600000 by omega, show sN + 0 ≤ 7302250 by omega⟩ (fun r_8 M_10 H locs hq_9 hP hD hS => ?_)
      have hTM0 := hTM
      obtain ⟨hTM, f_11, hR, hq_9⟩ := hq_9
      have hkp := kept_fr hkp f_11 (by decide)
      have ht1 : gi (C_4 5) 1 = gi (M_10 0) 7 := by rw [show gi (M_10 0) 7 = gi (M 0) 7 from congrArg vi (f_11.2 7 (by decide))]; exact ht1
      have ht3 : ga (C_4 32) = ga (M_10 7) := Eq.trans ht3 (congrArg ga (f_11.1 7 rfl (by decide))).symm
      have htK := htK.m f_11 (by decide)
      have hM_12 := hq_9 A0 hAM0 hok
      have hAM : absM M_10 A0 := absM_fr hAM hTM0 f_11 (by decide) (by decide) (by decide)
      have hUM : absTM M_10 T0 := absTM_eq hUM (f_11.1 14 rfl (by decide)) (congrArg vi (f_11.2 19 (by decide)))
      have hEM := em_eq hEM (fun s hs => f_11.1 (16 + s) (inR_out hs (by decide)) (by omega))
      have hSM : absHM M_10 S0 := hm_fr hSM (f_11.1 1 rfl (by decide)) (f_11.1 2 rfl (by decide)) (f_11.1 3 rfl (by decide)) (f_11.1 6 rfl (by decide))
      refine W.widen (k := cN) (n := sN) (Nat.le_refl _) (Nat.le_refl _) ?_
      refine lv_pop hx hb dL_law_1089 rfl ?_
      refine lv_goto (tgt := 2045) hx hb dL_law_1090 (by decide) ?_
      exact kk ma C_4 M_10 n (cN) (sN) H locs ls hT hTM hR hkp ht1 ht2 ht3 ⟨_, _, hAX, hAM, hok, hUX, hUM, _, _, hSX, hSM, hEX, hEM⟩ htK (by omega) (by omega) hP hD hS hl
    · refine lv_iconst (v := 1) hx hb dL_law_1081 (by decide) ?_
      refine lv_goto (tgt := 1086) hx hb dL_law_1082 (by decide) ?_
      refine lw_cM (As := [.int (xs ((nI i) + 1).toNatClampNeg), .int 1]) (rest := []) ⟨hx, hb, hml, hown, htg⟩ (e_X7_bears l D E G _ ma M n hn hTM (xs ((nI i) + 1).toNatClampNeg) (1 : Int32) (rg_c (v := 1) (lo := 0) (hi := 1) (by decide)) hR) (cwV 2 htg (oh_gV q_1270 q_1271 q_1272 q_73 q_1273) rfl rfl rfl pdVX7_bears ⟨Nat.le_of_ble_eq_true rfl, Nat.le_of_ble_eq_true rfl⟩) hK hP hD hG hS hA (va_recv hK (oh_suf_P hP) (ci := 7) (q0 := 0) rfl (oh_wg (by omega) (sM_0 hTM))) rfl hl.1 rfl (Nat.le_of_ble_eq_true rfl) dL_law_1086 ⟨show cN + 0 ≤ 600000 by omega, show sN + 0 ≤ 7302250 by omega⟩ (fun r_13 M_15 H locs hq_14 hP hD hS => ?_)
      have hTM0 := hTM
      obtain ⟨hTM, f_16, hR, hq_14⟩ := hq_14
      have hkp := kept_fr hkp f_16 (by decide)
      have ht1 : gi (C_4 5) 1 = gi (M_15 0) 7 := by rw [show gi (M_15 0) 7 = gi (M 0) 7 from congrArg vi (f_16.2 7 (by decide))]; exact ht1
      have ht3 : ga (C_4 32) = ga (M_15 7) := Eq.trans ht3 (congrArg ga (f_16.1 7 rfl (by decide))).symm
      have htK := htK.m f_16 (by decide)
      have hM_17 := hq_14 A0 hAM0 hok
      have hAM : absM M_15 A0 := absM_fr hAM hTM0 f_16 (by decide) (by decide) (by decide)
      have hUM : absTM M_15 T0 := absTM_eq hUM (f_16.1 14 rfl (by decide)) (congrArg vi (f_16.2 19 (by decide)))
      have hEM := em_eq hEM (fun s hs => f_16.1 (16 + s) (inR_out hs (by decide)) (by omega))
      have hSM : absHM M_15 S0 := hm_fr hSM (f_16.1 1 rfl (by decide)) (f_16.1 2 rfl (by decide)) (f_16.1 3 rfl (by decide)) (f_16.1 6 rfl (by decide))
      refine W.widen (k := cN) (n := sN) (Nat.le_refl _) (Nat.le_refl _) ?_
      refine lv_pop hx hb dL_law_1089 rfl ?_
      refine lv_goto (tgt := 2045) hx hb dL_law_1090 (by decide) ?_
      exact absurd c_1 c_7
  · refine lv_iconst (v := 1) hx hb dL_law_1058 (by decide) ?_
    refine lv_goto (tgt := 1063) hx hb dL_law_1059 (by decide) ?_
    refine lw_cX (As := [.int (xs ((nI i) + 1).toNatClampNeg), .int 1]) (rest := []) ⟨hx, hb, hml, hown, htg⟩ (e_X6_bears l D E G _ a C hT (xs ((nI i) + 1).toNatClampNeg) (1 : Int32) (rg_c (v := 1) (lo := 0) (hi := 1) (by decide))) (cwV 2 htg (oh_gV q_671 q_672 q_673 q_66 q_674) rfl rfl rfl pdVX6_bears ⟨Nat.le_of_ble_eq_true rfl, Nat.le_of_ble_eq_true rfl⟩) hK hP hD hG hS hA (va_recv hK (oh_pre_P hP) (ci := 6) (q0 := 0) rfl (oh_wg (by decide) (sX_0 hT))) rfl hl.1 rfl (Nat.le_of_ble_eq_true rfl) dL_law_1063 ⟨show cN + 0 ≤ 600000 by omega, show sN + 0 ≤ 7302250 by omega⟩ (fun r_18 C_20 H locs hq_19 hP hD hS => ?_)
    obtain ⟨hT, f_21, hq_19⟩ := hq_19
    have ht1 : gi (C_20 5) 1 = gi (M 0) 7 := by rw [f_21.1 5 rfl (by decide)]; exact ht1
    have ht2 : gi (C_20 0) 2 = 0 ↔ n = 74 := by rw [show gi (C_20 0) 2 = gi (C 0) 2 from congrArg vi (f_21.2 2 (by decide))]; exact ht2
    have ht3 : ga (C_20 32) = ga (M 7) := Eq.trans (congrArg ga (f_21.1 32 rfl (by decide))) ht3
    have htK := htK.x (fr_all f_21 17 23 (by decide)) (f_21.1 2 rfl (by decide))
    have hX_22 := hq_19 A0 hAX0 hok
    have hAX : absX 10 C_20 A0 := absX_eq hAX (fun k k1 k2 => fr_all f_21 10 15 (by decide) k k1 (by omega))
    have hUX : absTX 1 16 C_20 T0 := absTX_eq hUX (congrArg (fun z => gi z 7) (f_21.1 1 rfl (by decide))) (f_21.1 16 rfl (by decide))
    have hEX := ex_eq hEX (f_21.1 31 rfl (by decide))
    have hSX : absHX C_20 S0 := hx_fr hSX (f_21.1 29 rfl (by decide)) (f_21.1 30 rfl (by decide))
    refine W.widen (k := cN) (n := sN) (Nat.le_refl _) (Nat.le_refl _) ?_
    refine lv_pop hx hb dL_law_1066 rfl ?_
    refine lv_aload_n hx hb dL_law_1067 rfl (lv_at hl 1 rfl) ?_
    refine lv_aload_n hx hb dL_law_1068 rfl (lv_at hl 3 rfl) ?_
    refine lv_iload_n hx hb dL_law_1069 rfl (lv_at hl 0 rfl) ?_
    refine lv_iconst (v := 1) hx hb dL_law_1070 (by decide) ?_
    refine lv_iadd hx hb dL_law_1071 ?_
    refine va_sld hx hb hX hbl hbA hS (lw_ix hi hL (rg_c (v := 1) (lo := 1) (hi := 1) (by decide)) (by decide)) dL_law_1072 ?_
    refine lv_aload_n hx hb dL_law_1073 rfl (lv_at hl 3 rfl) ?_
    refine lv_iload_n hx hb dL_law_1074 rfl (lv_at hl 0 rfl) ?_
    refine lv_iconst (v := 2) hx hb dL_law_1075 (by decide) ?_
    refine lv_iadd hx hb dL_law_1076 ?_
    refine va_sld hx hb hX hbl hbA hS (lw_ix hi hL (rg_c (v := 2) (lo := 2) (hi := 2) (by decide)) (by decide)) dL_law_1077 ?_
    refine lv_if_eq (tgt := 1085) hx hb dL_law_1078 (by decide) (fun (c_23 : (xs ((nI i) + 2).toNatClampNeg) = 0) => ?_) (fun (c_23 : ¬ ((xs ((nI i) + 2).toNatClampNeg) = 0)) => ?_)
    · refine lv_iconst (v := 0) hx hb dL_law_1085 (by decide) ?_
      refine lw_cM (As := [.int (xs ((nI i) + 1).toNatClampNeg), .int 0]) (rest := []) ⟨hx, hb, hml, hown, htg⟩ (e_X7_bears l D E G _ ma M n hn hTM (xs ((nI i) + 1).toNatClampNeg) (0 : Int32) (rg_c (v := 0) (lo := 0) (hi := 1) (by decide)) hR) (cwV 2 htg (oh_gV q_1270 q_1271 q_1272 q_73 q_1273) rfl rfl rfl pdVX7_bears ⟨Nat.le_of_ble_eq_true rfl, Nat.le_of_ble_eq_true rfl⟩) hK hP hD hG hS hA (va_recv hK (oh_suf_P hP) (ci := 7) (q0 := 0) rfl (oh_wg (by omega) (sM_0 hTM))) rfl hl.1 rfl (Nat.le_of_ble_eq_true rfl) dL_law_1086 ⟨show cN + 0 ≤ 600000 by omega, show sN + 0 ≤ 7302250 by omega⟩ (fun r_24 M_26 H locs hq_25 hP hD hS => ?_)
      have hTM0 := hTM
      obtain ⟨hTM, f_27, hR, hq_25⟩ := hq_25
      have hkp := kept_fr hkp f_27 (by decide)
      have ht1 : gi (C_20 5) 1 = gi (M_26 0) 7 := by rw [show gi (M_26 0) 7 = gi (M 0) 7 from congrArg vi (f_27.2 7 (by decide))]; exact ht1
      have ht3 : ga (C_20 32) = ga (M_26 7) := Eq.trans ht3 (congrArg ga (f_27.1 7 rfl (by decide))).symm
      have htK := htK.m f_27 (by decide)
      have hM_28 := hq_25 A0 hAM0 hok
      have hAM : absM M_26 A0 := absM_fr hAM hTM0 f_27 (by decide) (by decide) (by decide)
      have hUM : absTM M_26 T0 := absTM_eq hUM (f_27.1 14 rfl (by decide)) (congrArg vi (f_27.2 19 (by decide)))
      have hEM := em_eq hEM (fun s hs => f_27.1 (16 + s) (inR_out hs (by decide)) (by omega))
      have hSM : absHM M_26 S0 := hm_fr hSM (f_27.1 1 rfl (by decide)) (f_27.1 2 rfl (by decide)) (f_27.1 3 rfl (by decide)) (f_27.1 6 rfl (by decide))
      refine W.widen (k := cN) (n := sN) (Nat.le_refl _) (Nat.le_refl _) ?_
      refine lv_pop hx hb dL_law_1089 rfl ?_
      refine lv_goto (tgt := 2045) hx hb dL_law_1090 (by decide) ?_
      exact absurd c_23 c_1
    · refine lv_iconst (v := 1) hx hb dL_law_1081 (by decide) ?_
      refine lv_goto (tgt := 1086) hx hb dL_law_1082 (by decide) ?_
      refine lw_cM (As := [.int (xs ((nI i) + 1).toNatClampNeg), .int 1]) (rest := []) ⟨hx, hb, hml, hown, htg⟩ (e_X7_bears l D E G _ ma M n hn hTM (xs ((nI i) + 1).toNatClampNeg) (1 : Int32) (rg_c (v := 1) (lo := 0) (hi := 1) (by decide)) hR) (cwV 2 htg (oh_gV q_1270 q_1271 q_1272 q_73 q_1273) rfl rfl rfl pdVX7_bears ⟨Nat.le_of_ble_eq_true rfl, Nat.le_of_ble_eq_true rfl⟩) hK hP hD hG hS hA (va_recv hK (oh_suf_P hP) (ci := 7) (q0 := 0) rfl (oh_wg (by omega) (sM_0 hTM))) rfl hl.1 rfl (Nat.le_of_ble_eq_true rfl) dL_law_1086 ⟨show cN + 0 ≤ 600000 by omega, show sN + 0 ≤ 7302250 by omega⟩ (fun r_29 M_31 H locs hq_30 hP hD hS => ?_)
      have hTM0 := hTM
      obtain ⟨hTM, f_32, hR, hq_30⟩ := hq_30
      have hkp := kept_fr hkp f_32 (by decide)
      have ht1 : gi (C_20 5) 1 = gi (M_31 0) 7 := by rw [show gi (M_31 0) 7 = gi (M 0) 7 from congrArg vi (f_32.2 7 (by decide))]; exact ht1
      have ht3 : ga (C_20 32) = ga (M_31 7) := Eq.trans ht3 (congrArg ga (f_32.1 7 rfl (by decide))).symm
      have htK := htK.m f_32 (by decide)
      have hM_33 := hq_30 A0 hAM0 hok
      have hAM : absM M_31 A0 := absM_fr hAM hTM0 f_32 (by decide) (by decide) (by decide)
      have hUM : absTM M_31 T0 := absTM_eq hUM (f_32.1 14 rfl (by decide)) (congrArg vi (f_32.2 19 (by decide)))
      have hEM := em_eq hEM (fun s hs => f_32.1 (16 + s) (inR_out hs (by decide)) (by omega))
      have hSM : absHM M_31 S0 := hm_fr hSM (f_32.1 1 rfl (by decide)) (f_32.1 2 rfl (by decide)) (f_32.1 3 rfl (by decide)) (f_32.1 6 rfl (by decide))
      refine W.widen (k := cN) (n := sN) (Nat.le_refl _) (Nat.le_refl _) ?_
      refine lv_pop hx hb dL_law_1089 rfl ?_
      refine lv_goto (tgt := 2045) hx hb dL_law_1090 (by decide) ?_
      exact kk ma C_20 M_31 n (cN) (sN) H locs ls hT hTM hR hkp ht1 ht2 ht3 ⟨_, _, hAX, hAM, hok, hUX, hUM, _, _, hSX, hSM, hEX, hEM⟩ htK (by omega) (by omega) hP hD hS hl

set_option maxHeartbeats 4000000 in
set_option maxRecDepth 100000 in
/-- the law at a call of length -/
theorem lc_length {p : Program} {e : Env} {s : State} {m : MethodId} {below : List Frame} {meth : Method} {c : Code} (l : Launch) {b L : Nat} {xs : Nat → Int32} (C0 : lw_At p s m meth c b L xs) (hL : L ≤ 4096) {D : va_G} {E : Nat → ClassId} {G : Nat → Nat} {A : Nat → Prop} (hAe : A = fun q => s.heap.size ≤ q) (hK : va_K D vwCl (oh_ty E) s) (hG : oh_G G A s) {a : Nat → Nat} {i : Nat} (hi : i + 8 ≤ L) {ma : Nat → Nat} {C M : Nat → va_E} {n cN sN : Nat} (hT : TyX a E C) (hTM : TyM ma E M) (hR : RelM M) (hkp : KEPT E n ma M) (ht1 : gi (C 5) 1 = gi (M 0) 7) (ht2 : gi (C 0) 2 = 0 ↔ n = 74) (ht3 : ga (C 32) = ga (M 7)) (htA : ∃ (A0 : LA) (T0 : TP), absX 10 C A0 ∧ absM M A0 ∧ okA A0 ∧ absTX 1 16 C T0 ∧ absTM M T0 ∧ ∃ (S0 : HZ) (Z0 : EZ), absHX C S0 ∧ absHM M S0 ∧ absEX C S0 Z0 ∧ absEM M S0 Z0) (htK : TIEK n C M) (hcN : cN ≤ 35 + n) (hsN : sN ≤ 1477 + 16 * n) {H : Heap} {locs : List Loc} (hP : va_P D vwCl (oh_W 35 a C ++ oh_W n ma M) H) (hD : va_D A (oh_W 35 a C ++ oh_W n ma M)) (hS : va_S A s.heap H locs) {ls : Array Slot} (hl : lv_has ls 4 [(3, .int (nI i)), (2, .ref (ma 0)), (1, .ref (a 0)), (0, .ref b)]) (kk : ∀ (ma : Nat → Nat) (C M : Nat → va_E) (n cN sN : Nat) (H : Heap) (locs : List Loc) (ls : Array Slot), TyX a E C → TyM ma E M → RelM M → KEPT E n ma M → gi (C 5) 1 = gi (M 0) 7 → (gi (C 0) 2 = 0 ↔ n = 74) → ga (C 32) = ga (M 7) → (∃ (A0 : LA) (T0 : TP), absX 10 C A0 ∧ absM M A0 ∧ okA A0 ∧ absTX 1 16 C T0 ∧ absTM M T0 ∧ ∃ (S0 : HZ) (Z0 : EZ), absHX C S0 ∧ absHM M S0 ∧ absEX C S0 Z0 ∧ absEM M S0 Z0) → TIEK n C M → cN ≤ 35 + n → sN ≤ 1477 + 16 * n → va_P D vwCl (oh_W 35 a C ++ oh_W n ma M) H → va_D A (oh_W 35 a C ++ oh_W n ma M) → va_S A s.heap H locs → lv_has ls 4 [(3, .int (nI i)), (2, .ref (ma 0)), (1, .ref (a 0)), (0, .ref b)] → W p l e room_1 s m #[Value.ref b] below meth c H locs cN sN (lw_Z below #[Value.ref b] s) (F0 m 2045 ls [])) : W p l e room_1 s m #[Value.ref b] below meth c H locs cN sN (lw_Z below #[Value.ref b] s) (F0 m 1093 ls []) := by
  obtain ⟨hx, hb, hr, hml, hown, hts, hX, hbl, hlocks, hgv⟩ := id C0
  have hown : s.vm.findClass RL = some m.cls := hown
  have htg : ∀ w ∈ oh_t, w.before _ s = true := fun w h => hts w (List.mem_filter.mp h).1
  have hA : ∀ q, s.heap.size ≤ q → A q := fun q h => by rw [hAe]; exact h
  have hbA : ¬ A b := by rw [hAe]; exact Nat.not_le.mpr hbl
  have hn := hkp.le.1
  have hn8 := hkp.le.2
  have ht10 := ht1
  have ht20 := ht2
  have ht30 := ht3
  obtain ⟨A0, T0, hAX, hAM, hok, hUX, hUM, S0, Z0, hSX, hSM, hEX, hEM⟩ := htA
  have hAX0 := hAX
  have hAM0 := hAM
  have htK0 := htK
  have hSX0 := hSX
  have hSM0 := hSM
  have hEX0 := hEX
  have hEM0 := hEM
  have hUX0 := hUX
  refine lv_aload_n hx hb dL_law_1093 rfl (lv_at hl 2 rfl) ?_
  refine lv_aload_n hx hb dL_law_1094 rfl (lv_at hl 3 rfl) ?_
  refine lv_iload_n hx hb dL_law_1095 rfl (lv_at hl 0 rfl) ?_
  refine lv_iconst (v := 1) hx hb dL_law_1096 (by decide) ?_
  refine lv_iadd hx hb dL_law_1097 ?_
  refine va_sld hx hb hX hbl hbA hS (lw_ix hi hL (rg_c (v := 1) (lo := 1) (hi := 1) (by decide)) (by decide)) dL_law_1098 ?_
  refine lw_cX (As := [.int (xs ((nI i) + 1).toNatClampNeg)]) (rest := []) ⟨hx, hb, hml, hown, htg⟩ (e_X6_length l D E G _ a C hT (xs ((nI i) + 1).toNatClampNeg)) (cwV 1 htg (oh_gV q_675 q_676 q_677 q_66 q_678) rfl rfl rfl pdVX6_length ⟨Nat.le_of_ble_eq_true rfl, Nat.le_of_ble_eq_true rfl⟩) hK hP hD hG hS hA (va_recv hK (oh_pre_P hP) (ci := 6) (q0 := 0) rfl (oh_wg (by decide) (sX_0 hT))) rfl hl.1 rfl (Nat.le_of_ble_eq_true rfl) dL_law_1099 ⟨show cN + 0 ≤ 600000 by omega, show sN + 0 ≤ 7302250 by omega⟩ (fun r_1 C_3 H locs hq_2 hP hD hS => ?_)
  obtain ⟨hT, f_4, hq_2⟩ := hq_2
  have ht1 : gi (C_3 5) 1 = gi (M 0) 7 := by rw [f_4.1 5 rfl (by decide)]; exact ht1
  have ht2 : gi (C_3 0) 2 = 0 ↔ n = 74 := by rw [show gi (C_3 0) 2 = gi (C 0) 2 from congrArg vi (f_4.2 2 (by decide))]; exact ht2
  have ht3 : ga (C_3 32) = ga (M 7) := Eq.trans (congrArg ga (f_4.1 32 rfl (by decide))) ht3
  have htK := htK.x (fr_all f_4 17 23 (by decide)) (f_4.1 2 rfl (by decide))
  have hX_5 := hq_2 A0 hAX0
  have hAX : absX 10 C_3 A0 := absX_eq hAX (fun k k1 k2 => fr_all f_4 10 15 (by decide) k k1 (by omega))
  have hUX : absTX 1 16 C_3 T0 := absTX_eq hUX (congrArg (fun z => gi z 7) (f_4.1 1 rfl (by decide))) (f_4.1 16 rfl (by decide))
  have hEX := ex_eq hEX (f_4.1 31 rfl (by decide))
  have hSX : absHX C_3 S0 := hx_fr hSX (f_4.1 29 rfl (by decide)) (f_4.1 30 rfl (by decide))
  refine W.widen (k := cN) (n := sN) (Nat.le_refl _) (Nat.le_refl _) ?_
  refine lv_pop hx hb dL_law_1102 rfl ?_
  refine lv_aload_n hx hb dL_law_1103 rfl (lv_at hl 1 rfl) ?_
  refine lv_aload_n hx hb dL_law_1104 rfl (lv_at hl 3 rfl) ?_
  refine lv_iload_n hx hb dL_law_1105 rfl (lv_at hl 0 rfl) ?_
  refine lv_iconst (v := 1) hx hb dL_law_1106 (by decide) ?_
  refine lv_iadd hx hb dL_law_1107 ?_
  refine va_sld hx hb hX hbl hbA hS (lw_ix hi hL (rg_c (v := 1) (lo := 1) (hi := 1) (by decide)) (by decide)) dL_law_1108 ?_
  refine lw_cM (As := [.int (xs ((nI i) + 1).toNatClampNeg)]) (rest := []) ⟨hx, hb, hml, hown, htg⟩ (e_X7_length l D E G _ ma M n hn hTM (xs ((nI i) + 1).toNatClampNeg) hR) (cwV 1 htg (oh_gV q_1274 q_1275 q_1276 q_73 q_1277) rfl rfl rfl pdVX7_length ⟨Nat.le_of_ble_eq_true rfl, Nat.le_of_ble_eq_true rfl⟩) hK hP hD hG hS hA (va_recv hK (oh_suf_P hP) (ci := 7) (q0 := 0) rfl (oh_wg (by omega) (sM_0 hTM))) rfl hl.1 rfl (Nat.le_of_ble_eq_true rfl) dL_law_1109 ⟨show cN + 0 ≤ 600000 by omega, show sN + 0 ≤ 7302250 by omega⟩ (fun r_6 M_8 H locs hq_7 hP hD hS => ?_)
  have hTM0 := hTM
  obtain ⟨hTM, f_9, hR, hq_7⟩ := hq_7
  have hkp := kept_fr hkp f_9 (by decide)
  have ht1 : gi (C_3 5) 1 = gi (M_8 0) 7 := by rw [show gi (M_8 0) 7 = gi (M 0) 7 from congrArg vi (f_9.2 7 (by decide))]; exact ht1
  have ht3 : ga (C_3 32) = ga (M_8 7) := Eq.trans ht3 (congrArg ga (f_9.1 7 rfl (by decide))).symm
  have htK := htK.m f_9 (by decide)
  have hM_10 := hq_7 A0 hAM0
  have hAM : absM M_8 A0 := absM_fr hAM hTM0 f_9 (by decide) (by decide) (by decide)
  have hUM : absTM M_8 T0 := absTM_eq hUM (f_9.1 14 rfl (by decide)) (congrArg vi (f_9.2 19 (by decide)))
  have hEM := em_eq hEM (fun s hs => f_9.1 (16 + s) (inR_out hs (by decide)) (by omega))
  have hSM : absHM M_8 S0 := hm_fr hSM (f_9.1 1 rfl (by decide)) (f_9.1 2 rfl (by decide)) (f_9.1 3 rfl (by decide)) (f_9.1 6 rfl (by decide))
  refine W.widen (k := cN) (n := sN) (Nat.le_refl _) (Nat.le_refl _) ?_
  refine lv_pop hx hb dL_law_1112 rfl ?_
  refine lv_goto (tgt := 2045) hx hb dL_law_1113 (by decide) ?_
  exact kk ma C_3 M_8 n (cN) (sN) H locs ls hT hTM hR hkp ht1 ht2 ht3 ⟨_, _, hAX, hAM, hok, hUX, hUM, _, _, hSX, hSM, hEX, hEM⟩ htK (by omega) (by omega) hP hD hS hl

set_option maxHeartbeats 4000000 in
set_option maxRecDepth 100000 in
/-- the law at a call of axle -/
theorem lc_axle {p : Program} {e : Env} {s : State} {m : MethodId} {below : List Frame} {meth : Method} {c : Code} (l : Launch) {b L : Nat} {xs : Nat → Int32} (C0 : lw_At p s m meth c b L xs) (hL : L ≤ 4096) {D : va_G} {E : Nat → ClassId} {G : Nat → Nat} {A : Nat → Prop} (hAe : A = fun q => s.heap.size ≤ q) (hK : va_K D vwCl (oh_ty E) s) (hG : oh_G G A s) {a : Nat → Nat} {i : Nat} (hi : i + 8 ≤ L) {ma : Nat → Nat} {C M : Nat → va_E} {n cN sN : Nat} (hT : TyX a E C) (hTM : TyM ma E M) (hR : RelM M) (hkp : KEPT E n ma M) (ht1 : gi (C 5) 1 = gi (M 0) 7) (ht2 : gi (C 0) 2 = 0 ↔ n = 74) (ht3 : ga (C 32) = ga (M 7)) (htA : ∃ (A0 : LA) (T0 : TP), absX 10 C A0 ∧ absM M A0 ∧ okA A0 ∧ absTX 1 16 C T0 ∧ absTM M T0 ∧ ∃ (S0 : HZ) (Z0 : EZ), absHX C S0 ∧ absHM M S0 ∧ absEX C S0 Z0 ∧ absEM M S0 Z0) (htK : TIEK n C M) (hcN : cN ≤ 35 + n) (hsN : sN ≤ 1477 + 16 * n) {H : Heap} {locs : List Loc} (hP : va_P D vwCl (oh_W 35 a C ++ oh_W n ma M) H) (hD : va_D A (oh_W 35 a C ++ oh_W n ma M)) (hS : va_S A s.heap H locs) {ls : Array Slot} (hl : lv_has ls 4 [(3, .int (nI i)), (2, .ref (ma 0)), (1, .ref (a 0)), (0, .ref b)]) (kk : ∀ (ma : Nat → Nat) (C M : Nat → va_E) (n cN sN : Nat) (H : Heap) (locs : List Loc) (ls : Array Slot), TyX a E C → TyM ma E M → RelM M → KEPT E n ma M → gi (C 5) 1 = gi (M 0) 7 → (gi (C 0) 2 = 0 ↔ n = 74) → ga (C 32) = ga (M 7) → (∃ (A0 : LA) (T0 : TP), absX 10 C A0 ∧ absM M A0 ∧ okA A0 ∧ absTX 1 16 C T0 ∧ absTM M T0 ∧ ∃ (S0 : HZ) (Z0 : EZ), absHX C S0 ∧ absHM M S0 ∧ absEX C S0 Z0 ∧ absEM M S0 Z0) → TIEK n C M → cN ≤ 35 + n → sN ≤ 1477 + 16 * n → va_P D vwCl (oh_W 35 a C ++ oh_W n ma M) H → va_D A (oh_W 35 a C ++ oh_W n ma M) → va_S A s.heap H locs → lv_has ls 4 [(3, .int (nI i)), (2, .ref (ma 0)), (1, .ref (a 0)), (0, .ref b)] → W p l e room_1 s m #[Value.ref b] below meth c H locs cN sN (lw_Z below #[Value.ref b] s) (F0 m 2045 ls [])) : W p l e room_1 s m #[Value.ref b] below meth c H locs cN sN (lw_Z below #[Value.ref b] s) (F0 m 1116 ls []) := by
  obtain ⟨hx, hb, hr, hml, hown, hts, hX, hbl, hlocks, hgv⟩ := id C0
  have hown : s.vm.findClass RL = some m.cls := hown
  have htg : ∀ w ∈ oh_t, w.before _ s = true := fun w h => hts w (List.mem_filter.mp h).1
  have hA : ∀ q, s.heap.size ≤ q → A q := fun q h => by rw [hAe]; exact h
  have hbA : ¬ A b := by rw [hAe]; exact Nat.not_le.mpr hbl
  have hn := hkp.le.1
  have hn8 := hkp.le.2
  have ht10 := ht1
  have ht20 := ht2
  have ht30 := ht3
  obtain ⟨A0, T0, hAX, hAM, hok, hUX, hUM, S0, Z0, hSX, hSM, hEX, hEM⟩ := htA
  have hAX0 := hAX
  have hAM0 := hAM
  have htK0 := htK
  have hSX0 := hSX
  have hSM0 := hSM
  have hEX0 := hEX
  have hEM0 := hEM
  have hUX0 := hUX
  refine lv_aload_n hx hb dL_law_1116 rfl (lv_at hl 2 rfl) ?_
  refine lv_aload_n hx hb dL_law_1117 rfl (lv_at hl 3 rfl) ?_
  refine lv_iload_n hx hb dL_law_1118 rfl (lv_at hl 0 rfl) ?_
  refine lv_iconst (v := 1) hx hb dL_law_1119 (by decide) ?_
  refine lv_iadd hx hb dL_law_1120 ?_
  refine va_sld hx hb hX hbl hbA hS (lw_ix hi hL (rg_c (v := 1) (lo := 1) (hi := 1) (by decide)) (by decide)) dL_law_1121 ?_
  refine lv_aload_n hx hb dL_law_1122 rfl (lv_at hl 3 rfl) ?_
  refine lv_iload_n hx hb dL_law_1123 rfl (lv_at hl 0 rfl) ?_
  refine lv_iconst (v := 2) hx hb dL_law_1124 (by decide) ?_
  refine lv_iadd hx hb dL_law_1125 ?_
  refine va_sld hx hb hX hbl hbA hS (lw_ix hi hL (rg_c (v := 2) (lo := 2) (hi := 2) (by decide)) (by decide)) dL_law_1126 ?_
  refine lw_cX (As := [.int (xs ((nI i) + 1).toNatClampNeg), .int (xs ((nI i) + 2).toNatClampNeg)]) (rest := []) ⟨hx, hb, hml, hown, htg⟩ (e_X6_axle l D E G _ a C hT (xs ((nI i) + 1).toNatClampNeg) (xs ((nI i) + 2).toNatClampNeg)) (cwV 2 htg (oh_gV q_691 q_692 q_693 q_66 q_694) rfl rfl rfl pdVX6_axle ⟨Nat.le_of_ble_eq_true rfl, Nat.le_of_ble_eq_true rfl⟩) hK hP hD hG hS hA (va_recv hK (oh_pre_P hP) (ci := 6) (q0 := 0) rfl (oh_wg (by decide) (sX_0 hT))) rfl hl.1 rfl (Nat.le_of_ble_eq_true rfl) dL_law_1127 ⟨show cN + 0 ≤ 600000 by omega, show sN + 0 ≤ 7302250 by omega⟩ (fun r_1 C_3 H locs hq_2 hP hD hS => ?_)
  obtain ⟨hT, f_4, hq_2⟩ := hq_2
  have ht1 : gi (C_3 5) 1 = gi (M 0) 7 := by rw [f_4.1 5 rfl (by decide)]; exact ht1
  have ht2 : gi (C_3 0) 2 = 0 ↔ n = 74 := by rw [show gi (C_3 0) 2 = gi (C 0) 2 from congrArg vi (f_4.2 2 (by decide))]; exact ht2
  have ht3 : ga (C_3 32) = ga (M 7) := Eq.trans (congrArg ga (f_4.1 32 rfl (by decide))) ht3
  have htK := htK.x (fr_all f_4 17 23 (by decide)) (f_4.1 2 rfl (by decide))
  have hX_5 := hq_2 A0 hAX0
  have hAX : absX 10 C_3 A0 := absX_eq hAX (fun k k1 k2 => fr_all f_4 10 15 (by decide) k k1 (by omega))
  have hUX : absTX 1 16 C_3 T0 := absTX_eq hUX (congrArg (fun z => gi z 7) (f_4.1 1 rfl (by decide))) (f_4.1 16 rfl (by decide))
  have hEX := ex_eq hEX (f_4.1 31 rfl (by decide))
  have hSX : absHX C_3 S0 := hx_fr hSX (f_4.1 29 rfl (by decide)) (f_4.1 30 rfl (by decide))
  refine W.widen (k := cN) (n := sN) (Nat.le_refl _) (Nat.le_refl _) ?_
  refine lv_pop hx hb dL_law_1130 rfl ?_
  refine lv_aload_n hx hb dL_law_1131 rfl (lv_at hl 1 rfl) ?_
  refine lv_aload_n hx hb dL_law_1132 rfl (lv_at hl 3 rfl) ?_
  refine lv_iload_n hx hb dL_law_1133 rfl (lv_at hl 0 rfl) ?_
  refine lv_iconst (v := 1) hx hb dL_law_1134 (by decide) ?_
  refine lv_iadd hx hb dL_law_1135 ?_
  refine va_sld hx hb hX hbl hbA hS (lw_ix hi hL (rg_c (v := 1) (lo := 1) (hi := 1) (by decide)) (by decide)) dL_law_1136 ?_
  refine lv_aload_n hx hb dL_law_1137 rfl (lv_at hl 3 rfl) ?_
  refine lv_iload_n hx hb dL_law_1138 rfl (lv_at hl 0 rfl) ?_
  refine lv_iconst (v := 2) hx hb dL_law_1139 (by decide) ?_
  refine lv_iadd hx hb dL_law_1140 ?_
  refine va_sld hx hb hX hbl hbA hS (lw_ix hi hL (rg_c (v := 2) (lo := 2) (hi := 2) (by decide)) (by decide)) dL_law_1141 ?_
  refine lw_cM (As := [.int (xs ((nI i) + 1).toNatClampNeg), .int (xs ((nI i) + 2).toNatClampNeg)]) (rest := []) ⟨hx, hb, hml, hown, htg⟩ (e_X7_axle l D E G _ ma M n hn hTM (xs ((nI i) + 1).toNatClampNeg) (xs ((nI i) + 2).toNatClampNeg) hR) (cwV 2 htg (oh_gV q_1286 q_1287 q_1288 q_73 q_1289) rfl rfl rfl pdVX7_axle ⟨Nat.le_of_ble_eq_true rfl, Nat.le_of_ble_eq_true rfl⟩) hK hP hD hG hS hA (va_recv hK (oh_suf_P hP) (ci := 7) (q0 := 0) rfl (oh_wg (by omega) (sM_0 hTM))) rfl hl.1 rfl (Nat.le_of_ble_eq_true rfl) dL_law_1142 ⟨show cN + 0 ≤ 600000 by omega, show sN + 0 ≤ 7302250 by omega⟩ (fun r_6 M_8 H locs hq_7 hP hD hS => ?_)
  have hTM0 := hTM
  obtain ⟨hTM, f_9, hR, hq_7⟩ := hq_7
  have hkp := kept_fr hkp f_9 (by decide)
  have ht1 : gi (C_3 5) 1 = gi (M_8 0) 7 := by rw [show gi (M_8 0) 7 = gi (M 0) 7 from congrArg vi (f_9.2 7 (by decide))]; exact ht1
  have ht3 : ga (C_3 32) = ga (M_8 7) := Eq.trans ht3 (congrArg ga (f_9.1 7 rfl (by decide))).symm
  have htK := htK.m f_9 (by decide)
  have hM_10 := hq_7 A0 hAM0
  have hAM : absM M_8 A0 := absM_fr hAM hTM0 f_9 (by decide) (by decide) (by decide)
  have hUM : absTM M_8 T0 := absTM_eq hUM (f_9.1 14 rfl (by decide)) (congrArg vi (f_9.2 19 (by decide)))
  have hEM := em_eq hEM (fun s hs => f_9.1 (16 + s) (inR_out hs (by decide)) (by omega))
  have hSM : absHM M_8 S0 := hm_fr hSM (f_9.1 1 rfl (by decide)) (f_9.1 2 rfl (by decide)) (f_9.1 3 rfl (by decide)) (f_9.1 6 rfl (by decide))
  refine W.widen (k := cN) (n := sN) (Nat.le_refl _) (Nat.le_refl _) ?_
  refine lv_pop hx hb dL_law_1145 rfl ?_
  refine lv_goto (tgt := 2045) hx hb dL_law_1146 (by decide) ?_
  exact kk ma C_3 M_8 n (cN) (sN) H locs ls hT hTM hR hkp ht1 ht2 ht3 ⟨_, _, hAX, hAM, hok, hUX, hUM, _, _, hSX, hSM, hEX, hEM⟩ htK (by omega) (by omega) hP hD hS hl

set_option maxHeartbeats 4000000 in
set_option maxRecDepth 100000 in
/-- the law at a call of strain -/
theorem lc_strain {p : Program} {e : Env} {s : State} {m : MethodId} {below : List Frame} {meth : Method} {c : Code} (l : Launch) {b L : Nat} {xs : Nat → Int32} (C0 : lw_At p s m meth c b L xs) (hL : L ≤ 4096) {D : va_G} {E : Nat → ClassId} {G : Nat → Nat} {A : Nat → Prop} (hAe : A = fun q => s.heap.size ≤ q) (hK : va_K D vwCl (oh_ty E) s) (hG : oh_G G A s) {a : Nat → Nat} {i : Nat} (hi : i + 8 ≤ L) {ma : Nat → Nat} {C M : Nat → va_E} {n cN sN : Nat} (hT : TyX a E C) (hTM : TyM ma E M) (hR : RelM M) (hkp : KEPT E n ma M) (ht1 : gi (C 5) 1 = gi (M 0) 7) (ht2 : gi (C 0) 2 = 0 ↔ n = 74) (ht3 : ga (C 32) = ga (M 7)) (htA : ∃ (A0 : LA) (T0 : TP), absX 10 C A0 ∧ absM M A0 ∧ okA A0 ∧ absTX 1 16 C T0 ∧ absTM M T0 ∧ ∃ (S0 : HZ) (Z0 : EZ), absHX C S0 ∧ absHM M S0 ∧ absEX C S0 Z0 ∧ absEM M S0 Z0) (htK : TIEK n C M) (hcN : cN ≤ 35 + n) (hsN : sN ≤ 1477 + 16 * n) {H : Heap} {locs : List Loc} (hP : va_P D vwCl (oh_W 35 a C ++ oh_W n ma M) H) (hD : va_D A (oh_W 35 a C ++ oh_W n ma M)) (hS : va_S A s.heap H locs) {ls : Array Slot} (hl : lv_has ls 4 [(3, .int (nI i)), (2, .ref (ma 0)), (1, .ref (a 0)), (0, .ref b)]) (kk : ∀ (ma : Nat → Nat) (C M : Nat → va_E) (n cN sN : Nat) (H : Heap) (locs : List Loc) (ls : Array Slot), TyX a E C → TyM ma E M → RelM M → KEPT E n ma M → gi (C 5) 1 = gi (M 0) 7 → (gi (C 0) 2 = 0 ↔ n = 74) → ga (C 32) = ga (M 7) → (∃ (A0 : LA) (T0 : TP), absX 10 C A0 ∧ absM M A0 ∧ okA A0 ∧ absTX 1 16 C T0 ∧ absTM M T0 ∧ ∃ (S0 : HZ) (Z0 : EZ), absHX C S0 ∧ absHM M S0 ∧ absEX C S0 Z0 ∧ absEM M S0 Z0) → TIEK n C M → cN ≤ 35 + n → sN ≤ 1477 + 16 * n → va_P D vwCl (oh_W 35 a C ++ oh_W n ma M) H → va_D A (oh_W 35 a C ++ oh_W n ma M) → va_S A s.heap H locs → lv_has ls 4 [(3, .int (nI i)), (2, .ref (ma 0)), (1, .ref (a 0)), (0, .ref b)] → W p l e room_1 s m #[Value.ref b] below meth c H locs cN sN (lw_Z below #[Value.ref b] s) (F0 m 2045 ls [])) : W p l e room_1 s m #[Value.ref b] below meth c H locs cN sN (lw_Z below #[Value.ref b] s) (F0 m 1149 ls []) := by
  obtain ⟨hx, hb, hr, hml, hown, hts, hX, hbl, hlocks, hgv⟩ := id C0
  have hown : s.vm.findClass RL = some m.cls := hown
  have htg : ∀ w ∈ oh_t, w.before _ s = true := fun w h => hts w (List.mem_filter.mp h).1
  have hA : ∀ q, s.heap.size ≤ q → A q := fun q h => by rw [hAe]; exact h
  have hbA : ¬ A b := by rw [hAe]; exact Nat.not_le.mpr hbl
  have hn := hkp.le.1
  have hn8 := hkp.le.2
  have ht10 := ht1
  have ht20 := ht2
  have ht30 := ht3
  obtain ⟨A0, T0, hAX, hAM, hok, hUX, hUM, S0, Z0, hSX, hSM, hEX, hEM⟩ := htA
  have hAX0 := hAX
  have hAM0 := hAM
  have htK0 := htK
  have hSX0 := hSX
  have hSM0 := hSM
  have hEX0 := hEX
  have hEM0 := hEM
  have hUX0 := hUX
  refine lv_aload_n hx hb dL_law_1149 rfl (lv_at hl 2 rfl) ?_
  refine lv_aload_n hx hb dL_law_1150 rfl (lv_at hl 3 rfl) ?_
  refine lv_iload_n hx hb dL_law_1151 rfl (lv_at hl 0 rfl) ?_
  refine lv_iconst (v := 1) hx hb dL_law_1152 (by decide) ?_
  refine lv_iadd hx hb dL_law_1153 ?_
  refine va_sld hx hb hX hbl hbA hS (lw_ix hi hL (rg_c (v := 1) (lo := 1) (hi := 1) (by decide)) (by decide)) dL_law_1154 ?_
  refine lv_aload_n hx hb dL_law_1155 rfl (lv_at hl 3 rfl) ?_
  refine lv_iload_n hx hb dL_law_1156 rfl (lv_at hl 0 rfl) ?_
  refine lv_iconst (v := 2) hx hb dL_law_1157 (by decide) ?_
  refine lv_iadd hx hb dL_law_1158 ?_
  refine va_sld hx hb hX hbl hbA hS (lw_ix hi hL (rg_c (v := 2) (lo := 2) (hi := 2) (by decide)) (by decide)) dL_law_1159 ?_
  refine lv_aload_n hx hb dL_law_1160 rfl (lv_at hl 3 rfl) ?_
  refine lv_iload_n hx hb dL_law_1161 rfl (lv_at hl 0 rfl) ?_
  refine lv_iconst (v := 3) hx hb dL_law_1162 (by decide) ?_
  refine lv_iadd hx hb dL_law_1163 ?_
  refine va_sld hx hb hX hbl hbA hS (lw_ix hi hL (rg_c (v := 3) (lo := 3) (hi := 3) (by decide)) (by decide)) dL_law_1164 ?_
  refine lw_cX (As := [.int (xs ((nI i) + 1).toNatClampNeg), .int (xs ((nI i) + 2).toNatClampNeg), .int (xs ((nI i) + 3).toNatClampNeg)]) (rest := []) ⟨hx, hb, hml, hown, htg⟩ (e_X6_strain l D E G _ a C hT (xs ((nI i) + 1).toNatClampNeg) (xs ((nI i) + 2).toNatClampNeg) (xs ((nI i) + 3).toNatClampNeg)) (cwV 3 htg (oh_gV q_719 q_720 q_721 q_66 q_722) rfl rfl rfl pdVX6_strain ⟨Nat.le_of_ble_eq_true rfl, Nat.le_of_ble_eq_true rfl⟩) hK hP hD hG hS hA (va_recv hK (oh_pre_P hP) (ci := 6) (q0 := 0) rfl (oh_wg (by decide) (sX_0 hT))) rfl hl.1 rfl (Nat.le_of_ble_eq_true rfl) dL_law_1165 ⟨show cN + 0 ≤ 600000 by omega, show sN + 0 ≤ 7302250 by omega⟩ (fun r_1 C_3 H locs hq_2 hP hD hS => ?_)
  obtain ⟨hT, f_4, hq_2⟩ := hq_2
  have ht1 : gi (C_3 5) 1 = gi (M 0) 7 := by rw [f_4.1 5 rfl (by decide)]; exact ht1
  have ht2 : gi (C_3 0) 2 = 0 ↔ n = 74 := by rw [show gi (C_3 0) 2 = gi (C 0) 2 from congrArg vi (f_4.2 2 (by decide))]; exact ht2
  have ht3 : ga (C_3 32) = ga (M 7) := Eq.trans (congrArg ga (f_4.1 32 rfl (by decide))) ht3
  have htK := htK.x (fr_all f_4 17 23 (by decide)) (f_4.1 2 rfl (by decide))
  have hX_5 := hq_2 A0 hAX0
  have hAX : absX 10 C_3 A0 := absX_eq hAX (fun k k1 k2 => fr_all f_4 10 15 (by decide) k k1 (by omega))
  have hUX : absTX 1 16 C_3 T0 := absTX_eq hUX (congrArg (fun z => gi z 7) (f_4.1 1 rfl (by decide))) (f_4.1 16 rfl (by decide))
  have hEX := ex_eq hEX (f_4.1 31 rfl (by decide))
  have hSX : absHX C_3 S0 := hx_fr hSX (f_4.1 29 rfl (by decide)) (f_4.1 30 rfl (by decide))
  refine W.widen (k := cN) (n := sN) (Nat.le_refl _) (Nat.le_refl _) ?_
  refine lv_pop hx hb dL_law_1168 rfl ?_
  refine lv_aload_n hx hb dL_law_1169 rfl (lv_at hl 1 rfl) ?_
  refine lv_aload_n hx hb dL_law_1170 rfl (lv_at hl 3 rfl) ?_
  refine lv_iload_n hx hb dL_law_1171 rfl (lv_at hl 0 rfl) ?_
  refine lv_iconst (v := 1) hx hb dL_law_1172 (by decide) ?_
  refine lv_iadd hx hb dL_law_1173 ?_
  refine va_sld hx hb hX hbl hbA hS (lw_ix hi hL (rg_c (v := 1) (lo := 1) (hi := 1) (by decide)) (by decide)) dL_law_1174 ?_
  refine lv_aload_n hx hb dL_law_1175 rfl (lv_at hl 3 rfl) ?_
  refine lv_iload_n hx hb dL_law_1176 rfl (lv_at hl 0 rfl) ?_
  refine lv_iconst (v := 2) hx hb dL_law_1177 (by decide) ?_
  refine lv_iadd hx hb dL_law_1178 ?_
  refine va_sld hx hb hX hbl hbA hS (lw_ix hi hL (rg_c (v := 2) (lo := 2) (hi := 2) (by decide)) (by decide)) dL_law_1179 ?_
  refine lv_aload_n hx hb dL_law_1180 rfl (lv_at hl 3 rfl) ?_
  refine lv_iload_n hx hb dL_law_1181 rfl (lv_at hl 0 rfl) ?_
  refine lv_iconst (v := 3) hx hb dL_law_1182 (by decide) ?_
  refine lv_iadd hx hb dL_law_1183 ?_
  refine va_sld hx hb hX hbl hbA hS (lw_ix hi hL (rg_c (v := 3) (lo := 3) (hi := 3) (by decide)) (by decide)) dL_law_1184 ?_
  refine lw_cM (As := [.int (xs ((nI i) + 1).toNatClampNeg), .int (xs ((nI i) + 2).toNatClampNeg), .int (xs ((nI i) + 3).toNatClampNeg)]) (rest := []) ⟨hx, hb, hml, hown, htg⟩ (e_X7_strain l D E G _ ma M n hn hTM (xs ((nI i) + 1).toNatClampNeg) (xs ((nI i) + 2).toNatClampNeg) (xs ((nI i) + 3).toNatClampNeg) hR) (cwV 3 htg (oh_gV q_1298 q_1299 q_1300 q_73 q_1301) rfl rfl rfl pdVX7_strain ⟨Nat.le_of_ble_eq_true rfl, Nat.le_of_ble_eq_true rfl⟩) hK hP hD hG hS hA (va_recv hK (oh_suf_P hP) (ci := 7) (q0 := 0) rfl (oh_wg (by omega) (sM_0 hTM))) rfl hl.1 rfl (Nat.le_of_ble_eq_true rfl) dL_law_1185 ⟨show cN + 0 ≤ 600000 by omega, show sN + 0 ≤ 7302250 by omega⟩ (fun r_6 M_8 H locs hq_7 hP hD hS => ?_)
  have hTM0 := hTM
  obtain ⟨hTM, f_9, hR, hq_7⟩ := hq_7
  have hkp := kept_fr hkp f_9 (by decide)
  have ht1 : gi (C_3 5) 1 = gi (M_8 0) 7 := by rw [show gi (M_8 0) 7 = gi (M 0) 7 from congrArg vi (f_9.2 7 (by decide))]; exact ht1
  have ht3 : ga (C_3 32) = ga (M_8 7) := Eq.trans ht3 (congrArg ga (f_9.1 7 rfl (by decide))).symm
  have htK := htK.m f_9 (by decide)
  have hM_10 := hq_7 A0 hAM0
  have hAM : absM M_8 A0 := absM_fr hAM hTM0 f_9 (by decide) (by decide) (by decide)
  have hUM : absTM M_8 T0 := absTM_eq hUM (f_9.1 14 rfl (by decide)) (congrArg vi (f_9.2 19 (by decide)))
  have hEM := em_eq hEM (fun s hs => f_9.1 (16 + s) (inR_out hs (by decide)) (by omega))
  have hSM : absHM M_8 S0 := hm_fr hSM (f_9.1 1 rfl (by decide)) (f_9.1 2 rfl (by decide)) (f_9.1 3 rfl (by decide)) (f_9.1 6 rfl (by decide))
  refine W.widen (k := cN) (n := sN) (Nat.le_refl _) (Nat.le_refl _) ?_
  refine lv_pop hx hb dL_law_1188 rfl ?_
  refine lv_goto (tgt := 2045) hx hb dL_law_1189 (by decide) ?_
  exact kk ma C_3 M_8 n (cN) (sN) H locs ls hT hTM hR hkp ht1 ht2 ht3 ⟨_, _, hAX, hAM, hok, hUX, hUM, _, _, hSX, hSM, hEX, hEM⟩ htK (by omega) (by omega) hP hD hS hl

set_option maxHeartbeats 4000000 in
set_option maxRecDepth 100000 in
/-- the law at a call of needs -/
theorem lc_needs {p : Program} {e : Env} {s : State} {m : MethodId} {below : List Frame} {meth : Method} {c : Code} (l : Launch) {b L : Nat} {xs : Nat → Int32} (C0 : lw_At p s m meth c b L xs) (hL : L ≤ 4096) {D : va_G} {E : Nat → ClassId} {G : Nat → Nat} {A : Nat → Prop} (hAe : A = fun q => s.heap.size ≤ q) (hK : va_K D vwCl (oh_ty E) s) (hG : oh_G G A s) {a : Nat → Nat} {i : Nat} (hi : i + 8 ≤ L) {ma : Nat → Nat} {C M : Nat → va_E} {n cN sN : Nat} (hT : TyX a E C) (hTM : TyM ma E M) (hR : RelM M) (hkp : KEPT E n ma M) (ht1 : gi (C 5) 1 = gi (M 0) 7) (ht2 : gi (C 0) 2 = 0 ↔ n = 74) (ht3 : ga (C 32) = ga (M 7)) (htA : ∃ (A0 : LA) (T0 : TP), absX 10 C A0 ∧ absM M A0 ∧ okA A0 ∧ absTX 1 16 C T0 ∧ absTM M T0 ∧ ∃ (S0 : HZ) (Z0 : EZ), absHX C S0 ∧ absHM M S0 ∧ absEX C S0 Z0 ∧ absEM M S0 Z0) (htK : TIEK n C M) (hcN : cN ≤ 35 + n) (hsN : sN ≤ 1477 + 16 * n) {H : Heap} {locs : List Loc} (hP : va_P D vwCl (oh_W 35 a C ++ oh_W n ma M) H) (hD : va_D A (oh_W 35 a C ++ oh_W n ma M)) (hS : va_S A s.heap H locs) {ls : Array Slot} (hl : lv_has ls 4 [(3, .int (nI i)), (2, .ref (ma 0)), (1, .ref (a 0)), (0, .ref b)]) (kk : ∀ (ma : Nat → Nat) (C M : Nat → va_E) (n cN sN : Nat) (H : Heap) (locs : List Loc) (ls : Array Slot), TyX a E C → TyM ma E M → RelM M → KEPT E n ma M → gi (C 5) 1 = gi (M 0) 7 → (gi (C 0) 2 = 0 ↔ n = 74) → ga (C 32) = ga (M 7) → (∃ (A0 : LA) (T0 : TP), absX 10 C A0 ∧ absM M A0 ∧ okA A0 ∧ absTX 1 16 C T0 ∧ absTM M T0 ∧ ∃ (S0 : HZ) (Z0 : EZ), absHX C S0 ∧ absHM M S0 ∧ absEX C S0 Z0 ∧ absEM M S0 Z0) → TIEK n C M → cN ≤ 35 + n → sN ≤ 1477 + 16 * n → va_P D vwCl (oh_W 35 a C ++ oh_W n ma M) H → va_D A (oh_W 35 a C ++ oh_W n ma M) → va_S A s.heap H locs → lv_has ls 4 [(3, .int (nI i)), (2, .ref (ma 0)), (1, .ref (a 0)), (0, .ref b)] → W p l e room_1 s m #[Value.ref b] below meth c H locs cN sN (lw_Z below #[Value.ref b] s) (F0 m 2045 ls [])) : W p l e room_1 s m #[Value.ref b] below meth c H locs cN sN (lw_Z below #[Value.ref b] s) (F0 m 1192 ls []) := by
  obtain ⟨hx, hb, hr, hml, hown, hts, hX, hbl, hlocks, hgv⟩ := id C0
  have hown : s.vm.findClass RL = some m.cls := hown
  have htg : ∀ w ∈ oh_t, w.before _ s = true := fun w h => hts w (List.mem_filter.mp h).1
  have hA : ∀ q, s.heap.size ≤ q → A q := fun q h => by rw [hAe]; exact h
  have hbA : ¬ A b := by rw [hAe]; exact Nat.not_le.mpr hbl
  have hn := hkp.le.1
  have hn8 := hkp.le.2
  have ht10 := ht1
  have ht20 := ht2
  have ht30 := ht3
  obtain ⟨A0, T0, hAX, hAM, hok, hUX, hUM, S0, Z0, hSX, hSM, hEX, hEM⟩ := htA
  have hAX0 := hAX
  have hAM0 := hAM
  have htK0 := htK
  have hSX0 := hSX
  have hSM0 := hSM
  have hEX0 := hEX
  have hEM0 := hEM
  have hUX0 := hUX
  refine lv_aload_n hx hb dL_law_1192 rfl (lv_at hl 2 rfl) ?_
  refine lv_aload_n hx hb dL_law_1193 rfl (lv_at hl 3 rfl) ?_
  refine lv_iload_n hx hb dL_law_1194 rfl (lv_at hl 0 rfl) ?_
  refine lv_iconst (v := 1) hx hb dL_law_1195 (by decide) ?_
  refine lv_iadd hx hb dL_law_1196 ?_
  refine va_sld hx hb hX hbl hbA hS (lw_ix hi hL (rg_c (v := 1) (lo := 1) (hi := 1) (by decide)) (by decide)) dL_law_1197 ?_
  refine lv_aload_n hx hb dL_law_1198 rfl (lv_at hl 3 rfl) ?_
  refine lv_iload_n hx hb dL_law_1199 rfl (lv_at hl 0 rfl) ?_
  refine lv_iconst (v := 2) hx hb dL_law_1200 (by decide) ?_
  refine lv_iadd hx hb dL_law_1201 ?_
  refine va_sld hx hb hX hbl hbA hS (lw_ix hi hL (rg_c (v := 2) (lo := 2) (hi := 2) (by decide)) (by decide)) dL_law_1202 ?_
  refine lv_aload_n hx hb dL_law_1203 rfl (lv_at hl 3 rfl) ?_
  refine lv_iload_n hx hb dL_law_1204 rfl (lv_at hl 0 rfl) ?_
  refine lv_iconst (v := 3) hx hb dL_law_1205 (by decide) ?_
  refine lv_iadd hx hb dL_law_1206 ?_
  refine va_sld hx hb hX hbl hbA hS (lw_ix hi hL (rg_c (v := 3) (lo := 3) (hi := 3) (by decide)) (by decide)) dL_law_1207 ?_
  refine lw_cX (As := [.int (xs ((nI i) + 1).toNatClampNeg), .int (xs ((nI i) + 2).toNatClampNeg), .int (xs ((nI i) + 3).toNatClampNeg)]) (rest := []) ⟨hx, hb, hml, hown, htg⟩ (e_X6_needs l D E G _ a C hT (xs ((nI i) + 1).toNatClampNeg) (xs ((nI i) + 2).toNatClampNeg) (xs ((nI i) + 3).toNatClampNeg)) (cwV 3 htg (oh_gV q_733 q_734 q_735 q_66 q_736) rfl rfl rfl pdVX6_needs ⟨Nat.le_of_ble_eq_true rfl, Nat.le_of_ble_eq_true rfl⟩) hK hP hD hG hS hA (va_recv hK (oh_pre_P hP) (ci := 6) (q0 := 0) rfl (oh_wg (by decide) (sX_0 hT))) rfl hl.1 rfl (Nat.le_of_ble_eq_true rfl) dL_law_1208 ⟨show cN + 0 ≤ 600000 by omega, show sN + 0 ≤ 7302250 by omega⟩ (fun r_1 C_3 H locs hq_2 hP hD hS => ?_)
  obtain ⟨hT, f_4, hq_2⟩ := hq_2
  have ht1 : gi (C_3 5) 1 = gi (M 0) 7 := by rw [f_4.1 5 rfl (by decide)]; exact ht1
  have ht2 : gi (C_3 0) 2 = 0 ↔ n = 74 := by rw [show gi (C_3 0) 2 = gi (C 0) 2 from congrArg vi (f_4.2 2 (by decide))]; exact ht2
  have ht3 : ga (C_3 32) = ga (M 7) := Eq.trans (congrArg ga (f_4.1 32 rfl (by decide))) ht3
  have htK := htK.x (fr_all f_4 17 23 (by decide)) (f_4.1 2 rfl (by decide))
  have hX_5 := hq_2 A0 hAX0 hok
  have hAX : absX 10 C_3 A0 := absX_eq hAX (fun k k1 k2 => fr_all f_4 10 15 (by decide) k k1 (by omega))
  have hUX : absTX 1 16 C_3 T0 := absTX_eq hUX (congrArg (fun z => gi z 7) (f_4.1 1 rfl (by decide))) (f_4.1 16 rfl (by decide))
  have hEX := ex_eq hEX (f_4.1 31 rfl (by decide))
  have hSX : absHX C_3 S0 := hx_fr hSX (f_4.1 29 rfl (by decide)) (f_4.1 30 rfl (by decide))
  refine W.widen (k := cN) (n := sN) (Nat.le_refl _) (Nat.le_refl _) ?_
  refine lv_pop hx hb dL_law_1211 rfl ?_
  refine lv_aload_n hx hb dL_law_1212 rfl (lv_at hl 1 rfl) ?_
  refine lv_aload_n hx hb dL_law_1213 rfl (lv_at hl 3 rfl) ?_
  refine lv_iload_n hx hb dL_law_1214 rfl (lv_at hl 0 rfl) ?_
  refine lv_iconst (v := 1) hx hb dL_law_1215 (by decide) ?_
  refine lv_iadd hx hb dL_law_1216 ?_
  refine va_sld hx hb hX hbl hbA hS (lw_ix hi hL (rg_c (v := 1) (lo := 1) (hi := 1) (by decide)) (by decide)) dL_law_1217 ?_
  refine lv_aload_n hx hb dL_law_1218 rfl (lv_at hl 3 rfl) ?_
  refine lv_iload_n hx hb dL_law_1219 rfl (lv_at hl 0 rfl) ?_
  refine lv_iconst (v := 2) hx hb dL_law_1220 (by decide) ?_
  refine lv_iadd hx hb dL_law_1221 ?_
  refine va_sld hx hb hX hbl hbA hS (lw_ix hi hL (rg_c (v := 2) (lo := 2) (hi := 2) (by decide)) (by decide)) dL_law_1222 ?_
  refine lv_aload_n hx hb dL_law_1223 rfl (lv_at hl 3 rfl) ?_
  refine lv_iload_n hx hb dL_law_1224 rfl (lv_at hl 0 rfl) ?_
  refine lv_iconst (v := 3) hx hb dL_law_1225 (by decide) ?_
  refine lv_iadd hx hb dL_law_1226 ?_
  refine va_sld hx hb hX hbl hbA hS (lw_ix hi hL (rg_c (v := 3) (lo := 3) (hi := 3) (by decide)) (by decide)) dL_law_1227 ?_
  refine lw_cM (As := [.int (xs ((nI i) + 1).toNatClampNeg), .int (xs ((nI i) + 2).toNatClampNeg), .int (xs ((nI i) + 3).toNatClampNeg)]) (rest := []) ⟨hx, hb, hml, hown, htg⟩ (e_X7_needs l D E G _ ma M n hn hTM (xs ((nI i) + 1).toNatClampNeg) (xs ((nI i) + 2).toNatClampNeg) (xs ((nI i) + 3).toNatClampNeg) hR) (cwV 3 htg (oh_gV q_1306 q_1307 q_1308 q_73 q_1309) rfl rfl rfl pdVX7_needs ⟨Nat.le_of_ble_eq_true rfl, Nat.le_of_ble_eq_true rfl⟩) hK hP hD hG hS hA (va_recv hK (oh_suf_P hP) (ci := 7) (q0 := 0) rfl (oh_wg (by omega) (sM_0 hTM))) rfl hl.1 rfl (Nat.le_of_ble_eq_true rfl) dL_law_1228 ⟨show cN + 0 ≤ 600000 by omega, show sN + 0 ≤ 7302250 by omega⟩ (fun r_6 M_8 H locs hq_7 hP hD hS => ?_)
  have hTM0 := hTM
  obtain ⟨hTM, f_9, hR, hq_7⟩ := hq_7
  have hkp := kept_fr hkp f_9 (by decide)
  have ht1 : gi (C_3 5) 1 = gi (M_8 0) 7 := by rw [show gi (M_8 0) 7 = gi (M 0) 7 from congrArg vi (f_9.2 7 (by decide))]; exact ht1
  have ht3 : ga (C_3 32) = ga (M_8 7) := Eq.trans ht3 (congrArg ga (f_9.1 7 rfl (by decide))).symm
  have htK := htK.m f_9 (by decide)
  have hM_10 := hq_7 A0 hAM0 hok
  have hAM : absM M_8 A0 := absM_fr hAM hTM0 f_9 (by decide) (by decide) (by decide)
  have hUM : absTM M_8 T0 := absTM_eq hUM (f_9.1 14 rfl (by decide)) (congrArg vi (f_9.2 19 (by decide)))
  have hEM := em_eq hEM (fun s hs => f_9.1 (16 + s) (inR_out hs (by decide)) (by omega))
  have hSM : absHM M_8 S0 := hm_fr hSM (f_9.1 1 rfl (by decide)) (f_9.1 2 rfl (by decide)) (f_9.1 3 rfl (by decide)) (f_9.1 6 rfl (by decide))
  refine W.widen (k := cN) (n := sN) (Nat.le_refl _) (Nat.le_refl _) ?_
  refine lv_pop hx hb dL_law_1231 rfl ?_
  refine lv_goto (tgt := 2045) hx hb dL_law_1232 (by decide) ?_
  exact kk ma C_3 M_8 n (cN) (sN) H locs ls hT hTM hR hkp ht1 ht2 ht3 ⟨_, _, hAX, hAM, hok, hUX, hUM, _, _, hSX, hSM, hEX, hEM⟩ htK (by omega) (by omega) hP hD hS hl

set_option maxHeartbeats 4000000 in
set_option maxRecDepth 100000 in
/-- the law at a call of goes -/
theorem lc_goes {p : Program} {e : Env} {s : State} {m : MethodId} {below : List Frame} {meth : Method} {c : Code} (l : Launch) {b L : Nat} {xs : Nat → Int32} (C0 : lw_At p s m meth c b L xs) (hL : L ≤ 4096) {D : va_G} {E : Nat → ClassId} {G : Nat → Nat} {A : Nat → Prop} (hAe : A = fun q => s.heap.size ≤ q) (hK : va_K D vwCl (oh_ty E) s) (hG : oh_G G A s) {a : Nat → Nat} {i : Nat} (hi : i + 8 ≤ L) {ma : Nat → Nat} {C M : Nat → va_E} {n cN sN : Nat} (hT : TyX a E C) (hTM : TyM ma E M) (hR : RelM M) (hkp : KEPT E n ma M) (ht1 : gi (C 5) 1 = gi (M 0) 7) (ht2 : gi (C 0) 2 = 0 ↔ n = 74) (ht3 : ga (C 32) = ga (M 7)) (htA : ∃ (A0 : LA) (T0 : TP), absX 10 C A0 ∧ absM M A0 ∧ okA A0 ∧ absTX 1 16 C T0 ∧ absTM M T0 ∧ ∃ (S0 : HZ) (Z0 : EZ), absHX C S0 ∧ absHM M S0 ∧ absEX C S0 Z0 ∧ absEM M S0 Z0) (htK : TIEK n C M) (hcN : cN ≤ 35 + n) (hsN : sN ≤ 1477 + 16 * n) {H : Heap} {locs : List Loc} (hP : va_P D vwCl (oh_W 35 a C ++ oh_W n ma M) H) (hD : va_D A (oh_W 35 a C ++ oh_W n ma M)) (hS : va_S A s.heap H locs) {ls : Array Slot} (hl : lv_has ls 4 [(3, .int (nI i)), (2, .ref (ma 0)), (1, .ref (a 0)), (0, .ref b)]) (kk : ∀ (ma : Nat → Nat) (C M : Nat → va_E) (n cN sN : Nat) (H : Heap) (locs : List Loc) (ls : Array Slot), TyX a E C → TyM ma E M → RelM M → KEPT E n ma M → gi (C 5) 1 = gi (M 0) 7 → (gi (C 0) 2 = 0 ↔ n = 74) → ga (C 32) = ga (M 7) → (∃ (A0 : LA) (T0 : TP), absX 10 C A0 ∧ absM M A0 ∧ okA A0 ∧ absTX 1 16 C T0 ∧ absTM M T0 ∧ ∃ (S0 : HZ) (Z0 : EZ), absHX C S0 ∧ absHM M S0 ∧ absEX C S0 Z0 ∧ absEM M S0 Z0) → TIEK n C M → cN ≤ 35 + n → sN ≤ 1477 + 16 * n → va_P D vwCl (oh_W 35 a C ++ oh_W n ma M) H → va_D A (oh_W 35 a C ++ oh_W n ma M) → va_S A s.heap H locs → lv_has ls 4 [(3, .int (nI i)), (2, .ref (ma 0)), (1, .ref (a 0)), (0, .ref b)] → W p l e room_1 s m #[Value.ref b] below meth c H locs cN sN (lw_Z below #[Value.ref b] s) (F0 m 2045 ls [])) : W p l e room_1 s m #[Value.ref b] below meth c H locs cN sN (lw_Z below #[Value.ref b] s) (F0 m 1235 ls []) := by
  obtain ⟨hx, hb, hr, hml, hown, hts, hX, hbl, hlocks, hgv⟩ := id C0
  have hown : s.vm.findClass RL = some m.cls := hown
  have htg : ∀ w ∈ oh_t, w.before _ s = true := fun w h => hts w (List.mem_filter.mp h).1
  have hA : ∀ q, s.heap.size ≤ q → A q := fun q h => by rw [hAe]; exact h
  have hbA : ¬ A b := by rw [hAe]; exact Nat.not_le.mpr hbl
  have hn := hkp.le.1
  have hn8 := hkp.le.2
  have ht10 := ht1
  have ht20 := ht2
  have ht30 := ht3
  obtain ⟨A0, T0, hAX, hAM, hok, hUX, hUM, S0, Z0, hSX, hSM, hEX, hEM⟩ := htA
  have hAX0 := hAX
  have hAM0 := hAM
  have htK0 := htK
  have hSX0 := hSX
  have hSM0 := hSM
  have hEX0 := hEX
  have hEM0 := hEM
  have hUX0 := hUX
  refine lv_aload_n hx hb dL_law_1235 rfl (lv_at hl 2 rfl) ?_
  refine lv_aload_n hx hb dL_law_1236 rfl (lv_at hl 3 rfl) ?_
  refine lv_iload_n hx hb dL_law_1237 rfl (lv_at hl 0 rfl) ?_
  refine lv_iconst (v := 1) hx hb dL_law_1238 (by decide) ?_
  refine lv_iadd hx hb dL_law_1239 ?_
  refine va_sld hx hb hX hbl hbA hS (lw_ix hi hL (rg_c (v := 1) (lo := 1) (hi := 1) (by decide)) (by decide)) dL_law_1240 ?_
  refine lv_aload_n hx hb dL_law_1241 rfl (lv_at hl 3 rfl) ?_
  refine lv_iload_n hx hb dL_law_1242 rfl (lv_at hl 0 rfl) ?_
  refine lv_iconst (v := 2) hx hb dL_law_1243 (by decide) ?_
  refine lv_iadd hx hb dL_law_1244 ?_
  refine va_sld hx hb hX hbl hbA hS (lw_ix hi hL (rg_c (v := 2) (lo := 2) (hi := 2) (by decide)) (by decide)) dL_law_1245 ?_
  refine lv_aload_n hx hb dL_law_1246 rfl (lv_at hl 3 rfl) ?_
  refine lv_iload_n hx hb dL_law_1247 rfl (lv_at hl 0 rfl) ?_
  refine lv_iconst (v := 3) hx hb dL_law_1248 (by decide) ?_
  refine lv_iadd hx hb dL_law_1249 ?_
  refine va_sld hx hb hX hbl hbA hS (lw_ix hi hL (rg_c (v := 3) (lo := 3) (hi := 3) (by decide)) (by decide)) dL_law_1250 ?_
  refine lv_aload_n hx hb dL_law_1251 rfl (lv_at hl 3 rfl) ?_
  refine lv_iload_n hx hb dL_law_1252 rfl (lv_at hl 0 rfl) ?_
  refine lv_iconst (v := 4) hx hb dL_law_1253 (by decide) ?_
  refine lv_iadd hx hb dL_law_1254 ?_
  refine va_sld hx hb hX hbl hbA hS (lw_ix hi hL (rg_c (v := 4) (lo := 4) (hi := 4) (by decide)) (by decide)) dL_law_1255 ?_
  refine lw_cX (As := [.int (xs ((nI i) + 1).toNatClampNeg), .int (xs ((nI i) + 2).toNatClampNeg), .int (xs ((nI i) + 3).toNatClampNeg), .int (xs ((nI i) + 4).toNatClampNeg)]) (rest := []) ⟨hx, hb, hml, hown, htg⟩ (e_X6_goes l D E G _ a C hT (xs ((nI i) + 1).toNatClampNeg) (xs ((nI i) + 2).toNatClampNeg) (xs ((nI i) + 3).toNatClampNeg) (xs ((nI i) + 4).toNatClampNeg)) (cwV 4 htg (oh_gV q_746 q_747 q_748 q_66 q_749) rfl rfl rfl pdVX6_goes ⟨Nat.le_of_ble_eq_true rfl, Nat.le_of_ble_eq_true rfl⟩) hK hP hD hG hS hA (va_recv hK (oh_pre_P hP) (ci := 6) (q0 := 0) rfl (oh_wg (by decide) (sX_0 hT))) rfl hl.1 rfl (Nat.le_of_ble_eq_true rfl) dL_law_1256 ⟨show cN + 0 ≤ 600000 by omega, show sN + 0 ≤ 7302250 by omega⟩ (fun r_1 C_3 H locs hq_2 hP hD hS => ?_)
  obtain ⟨hT, f_4, hq_2⟩ := hq_2
  have ht1 : gi (C_3 5) 1 = gi (M 0) 7 := by rw [f_4.1 5 rfl (by decide)]; exact ht1
  have ht2 : gi (C_3 0) 2 = 0 ↔ n = 74 := by rw [show gi (C_3 0) 2 = gi (C 0) 2 from congrArg vi (f_4.2 2 (by decide))]; exact ht2
  have ht3 : ga (C_3 32) = ga (M 7) := Eq.trans (congrArg ga (f_4.1 32 rfl (by decide))) ht3
  have htK := htK.x (fr_all f_4 17 23 (by decide)) (f_4.1 2 rfl (by decide))
  have hX_5 := hq_2 A0 hAX0 hok
  have hAX : absX 10 C_3 A0 := absX_eq hAX (fun k k1 k2 => fr_all f_4 10 15 (by decide) k k1 (by omega))
  have hUX : absTX 1 16 C_3 T0 := absTX_eq hUX (congrArg (fun z => gi z 7) (f_4.1 1 rfl (by decide))) (f_4.1 16 rfl (by decide))
  have hEX := ex_eq hEX (f_4.1 31 rfl (by decide))
  have hSX : absHX C_3 S0 := hx_fr hSX (f_4.1 29 rfl (by decide)) (f_4.1 30 rfl (by decide))
  refine W.widen (k := cN) (n := sN) (Nat.le_refl _) (Nat.le_refl _) ?_
  refine lv_pop hx hb dL_law_1259 rfl ?_
  refine lv_aload_n hx hb dL_law_1260 rfl (lv_at hl 1 rfl) ?_
  refine lv_aload_n hx hb dL_law_1261 rfl (lv_at hl 3 rfl) ?_
  refine lv_iload_n hx hb dL_law_1262 rfl (lv_at hl 0 rfl) ?_
  refine lv_iconst (v := 1) hx hb dL_law_1263 (by decide) ?_
  refine lv_iadd hx hb dL_law_1264 ?_
  refine va_sld hx hb hX hbl hbA hS (lw_ix hi hL (rg_c (v := 1) (lo := 1) (hi := 1) (by decide)) (by decide)) dL_law_1265 ?_
  refine lv_aload_n hx hb dL_law_1266 rfl (lv_at hl 3 rfl) ?_
  refine lv_iload_n hx hb dL_law_1267 rfl (lv_at hl 0 rfl) ?_
  refine lv_iconst (v := 2) hx hb dL_law_1268 (by decide) ?_
  refine lv_iadd hx hb dL_law_1269 ?_
  refine va_sld hx hb hX hbl hbA hS (lw_ix hi hL (rg_c (v := 2) (lo := 2) (hi := 2) (by decide)) (by decide)) dL_law_1270 ?_
  refine lv_aload_n hx hb dL_law_1271 rfl (lv_at hl 3 rfl) ?_
  refine lv_iload_n hx hb dL_law_1272 rfl (lv_at hl 0 rfl) ?_
  refine lv_iconst (v := 3) hx hb dL_law_1273 (by decide) ?_
  refine lv_iadd hx hb dL_law_1274 ?_
  refine va_sld hx hb hX hbl hbA hS (lw_ix hi hL (rg_c (v := 3) (lo := 3) (hi := 3) (by decide)) (by decide)) dL_law_1275 ?_
  refine lv_aload_n hx hb dL_law_1276 rfl (lv_at hl 3 rfl) ?_
  refine lv_iload_n hx hb dL_law_1277 rfl (lv_at hl 0 rfl) ?_
  refine lv_iconst (v := 4) hx hb dL_law_1278 (by decide) ?_
  refine lv_iadd hx hb dL_law_1279 ?_
  refine va_sld hx hb hX hbl hbA hS (lw_ix hi hL (rg_c (v := 4) (lo := 4) (hi := 4) (by decide)) (by decide)) dL_law_1280 ?_
  refine lw_cM (As := [.int (xs ((nI i) + 1).toNatClampNeg), .int (xs ((nI i) + 2).toNatClampNeg), .int (xs ((nI i) + 3).toNatClampNeg), .int (xs ((nI i) + 4).toNatClampNeg)]) (rest := []) ⟨hx, hb, hml, hown, htg⟩ (e_X7_goes l D E G _ ma M n hn hTM (xs ((nI i) + 1).toNatClampNeg) (xs ((nI i) + 2).toNatClampNeg) (xs ((nI i) + 3).toNatClampNeg) (xs ((nI i) + 4).toNatClampNeg) hR) (cwV 4 htg (oh_gV q_1314 q_1315 q_1316 q_73 q_1317) rfl rfl rfl pdVX7_goes ⟨Nat.le_of_ble_eq_true rfl, Nat.le_of_ble_eq_true rfl⟩) hK hP hD hG hS hA (va_recv hK (oh_suf_P hP) (ci := 7) (q0 := 0) rfl (oh_wg (by omega) (sM_0 hTM))) rfl hl.1 rfl (Nat.le_of_ble_eq_true rfl) dL_law_1281 ⟨show cN + 0 ≤ 600000 by omega, show sN + 0 ≤ 7302250 by omega⟩ (fun r_6 M_8 H locs hq_7 hP hD hS => ?_)
  have hTM0 := hTM
  obtain ⟨hTM, f_9, hR, hq_7⟩ := hq_7
  have hkp := kept_fr hkp f_9 (by decide)
  have ht1 : gi (C_3 5) 1 = gi (M_8 0) 7 := by rw [show gi (M_8 0) 7 = gi (M 0) 7 from congrArg vi (f_9.2 7 (by decide))]; exact ht1
  have ht3 : ga (C_3 32) = ga (M_8 7) := Eq.trans ht3 (congrArg ga (f_9.1 7 rfl (by decide))).symm
  have htK := htK.m f_9 (by decide)
  have hM_10 := hq_7 A0 hAM0 hok
  have hAM : absM M_8 A0 := absM_fr hAM hTM0 f_9 (by decide) (by decide) (by decide)
  have hUM : absTM M_8 T0 := absTM_eq hUM (f_9.1 14 rfl (by decide)) (congrArg vi (f_9.2 19 (by decide)))
  have hEM := em_eq hEM (fun s hs => f_9.1 (16 + s) (inR_out hs (by decide)) (by omega))
  have hSM : absHM M_8 S0 := hm_fr hSM (f_9.1 1 rfl (by decide)) (f_9.1 2 rfl (by decide)) (f_9.1 3 rfl (by decide)) (f_9.1 6 rfl (by decide))
  refine W.widen (k := cN) (n := sN) (Nat.le_refl _) (Nat.le_refl _) ?_
  refine lv_pop hx hb dL_law_1284 rfl ?_
  refine lv_goto (tgt := 2045) hx hb dL_law_1285 (by decide) ?_
  exact kk ma C_3 M_8 n (cN) (sN) H locs ls hT hTM hR hkp ht1 ht2 ht3 ⟨_, _, hAX, hAM, hok, hUX, hUM, _, _, hSX, hSM, hEX, hEM⟩ htK (by omega) (by omega) hP hD hS hl

set_option maxHeartbeats 4000000 in
set_option maxRecDepth 100000 in
/-- the law at a call of cheapest -/
theorem lc_cheapest {p : Program} {e : Env} {s : State} {m : MethodId} {below : List Frame} {meth : Method} {c : Code} (l : Launch) {b L : Nat} {xs : Nat → Int32} (C0 : lw_At p s m meth c b L xs) (hL : L ≤ 4096) {D : va_G} {E : Nat → ClassId} {G : Nat → Nat} {A : Nat → Prop} (hAe : A = fun q => s.heap.size ≤ q) (hK : va_K D vwCl (oh_ty E) s) (hG : oh_G G A s) {a : Nat → Nat} {i : Nat} (hi : i + 8 ≤ L) {ma : Nat → Nat} {C M : Nat → va_E} {n cN sN : Nat} (hT : TyX a E C) (hTM : TyM ma E M) (hR : RelM M) (hkp : KEPT E n ma M) (ht1 : gi (C 5) 1 = gi (M 0) 7) (ht2 : gi (C 0) 2 = 0 ↔ n = 74) (ht3 : ga (C 32) = ga (M 7)) (htA : ∃ (A0 : LA) (T0 : TP), absX 10 C A0 ∧ absM M A0 ∧ okA A0 ∧ absTX 1 16 C T0 ∧ absTM M T0 ∧ ∃ (S0 : HZ) (Z0 : EZ), absHX C S0 ∧ absHM M S0 ∧ absEX C S0 Z0 ∧ absEM M S0 Z0) (htK : TIEK n C M) (hcN : cN ≤ 35 + n) (hsN : sN ≤ 1477 + 16 * n) {H : Heap} {locs : List Loc} (hP : va_P D vwCl (oh_W 35 a C ++ oh_W n ma M) H) (hD : va_D A (oh_W 35 a C ++ oh_W n ma M)) (hS : va_S A s.heap H locs) {ls : Array Slot} (hl : lv_has ls 4 [(3, .int (nI i)), (2, .ref (ma 0)), (1, .ref (a 0)), (0, .ref b)]) (kk : ∀ (ma : Nat → Nat) (C M : Nat → va_E) (n cN sN : Nat) (H : Heap) (locs : List Loc) (ls : Array Slot), TyX a E C → TyM ma E M → RelM M → KEPT E n ma M → gi (C 5) 1 = gi (M 0) 7 → (gi (C 0) 2 = 0 ↔ n = 74) → ga (C 32) = ga (M 7) → (∃ (A0 : LA) (T0 : TP), absX 10 C A0 ∧ absM M A0 ∧ okA A0 ∧ absTX 1 16 C T0 ∧ absTM M T0 ∧ ∃ (S0 : HZ) (Z0 : EZ), absHX C S0 ∧ absHM M S0 ∧ absEX C S0 Z0 ∧ absEM M S0 Z0) → TIEK n C M → cN ≤ 35 + n → sN ≤ 1477 + 16 * n → va_P D vwCl (oh_W 35 a C ++ oh_W n ma M) H → va_D A (oh_W 35 a C ++ oh_W n ma M) → va_S A s.heap H locs → lv_has ls 4 [(3, .int (nI i)), (2, .ref (ma 0)), (1, .ref (a 0)), (0, .ref b)] → W p l e room_1 s m #[Value.ref b] below meth c H locs cN sN (lw_Z below #[Value.ref b] s) (F0 m 2045 ls [])) : W p l e room_1 s m #[Value.ref b] below meth c H locs cN sN (lw_Z below #[Value.ref b] s) (F0 m 1288 ls []) := by
  obtain ⟨hx, hb, hr, hml, hown, hts, hX, hbl, hlocks, hgv⟩ := id C0
  have hown : s.vm.findClass RL = some m.cls := hown
  have htg : ∀ w ∈ oh_t, w.before _ s = true := fun w h => hts w (List.mem_filter.mp h).1
  have hA : ∀ q, s.heap.size ≤ q → A q := fun q h => by rw [hAe]; exact h
  have hbA : ¬ A b := by rw [hAe]; exact Nat.not_le.mpr hbl
  have hn := hkp.le.1
  have hn8 := hkp.le.2
  have ht10 := ht1
  have ht20 := ht2
  have ht30 := ht3
  obtain ⟨A0, T0, hAX, hAM, hok, hUX, hUM, S0, Z0, hSX, hSM, hEX, hEM⟩ := htA
  have hAX0 := hAX
  have hAM0 := hAM
  have htK0 := htK
  have hSX0 := hSX
  have hSM0 := hSM
  have hEX0 := hEX
  have hEM0 := hEM
  have hUX0 := hUX
  refine lv_aload_n hx hb dL_law_1288 rfl (lv_at hl 2 rfl) ?_
  refine lv_aload_n hx hb dL_law_1289 rfl (lv_at hl 3 rfl) ?_
  refine lv_iload_n hx hb dL_law_1290 rfl (lv_at hl 0 rfl) ?_
  refine lv_iconst (v := 1) hx hb dL_law_1291 (by decide) ?_
  refine lv_iadd hx hb dL_law_1292 ?_
  refine va_sld hx hb hX hbl hbA hS (lw_ix hi hL (rg_c (v := 1) (lo := 1) (hi := 1) (by decide)) (by decide)) dL_law_1293 ?_
  refine lv_aload_n hx hb dL_law_1294 rfl (lv_at hl 3 rfl) ?_
  refine lv_iload_n hx hb dL_law_1295 rfl (lv_at hl 0 rfl) ?_
  refine lv_iconst (v := 2) hx hb dL_law_1296 (by decide) ?_
  refine lv_iadd hx hb dL_law_1297 ?_
  refine va_sld hx hb hX hbl hbA hS (lw_ix hi hL (rg_c (v := 2) (lo := 2) (hi := 2) (by decide)) (by decide)) dL_law_1298 ?_
  refine lv_aload_n hx hb dL_law_1299 rfl (lv_at hl 3 rfl) ?_
  refine lv_iload_n hx hb dL_law_1300 rfl (lv_at hl 0 rfl) ?_
  refine lv_iconst (v := 3) hx hb dL_law_1301 (by decide) ?_
  refine lv_iadd hx hb dL_law_1302 ?_
  refine va_sld hx hb hX hbl hbA hS (lw_ix hi hL (rg_c (v := 3) (lo := 3) (hi := 3) (by decide)) (by decide)) dL_law_1303 ?_
  refine lv_aload_n hx hb dL_law_1304 rfl (lv_at hl 3 rfl) ?_
  refine lv_iload_n hx hb dL_law_1305 rfl (lv_at hl 0 rfl) ?_
  refine lv_iconst (v := 4) hx hb dL_law_1306 (by decide) ?_
  refine lv_iadd hx hb dL_law_1307 ?_
  refine va_sld hx hb hX hbl hbA hS (lw_ix hi hL (rg_c (v := 4) (lo := 4) (hi := 4) (by decide)) (by decide)) dL_law_1308 ?_
  refine lw_cX (As := [.int (xs ((nI i) + 1).toNatClampNeg), .int (xs ((nI i) + 2).toNatClampNeg), .int (xs ((nI i) + 3).toNatClampNeg), .int (xs ((nI i) + 4).toNatClampNeg)]) (rest := []) ⟨hx, hb, hml, hown, htg⟩ (e_X6_cheapest l D E G _ a C hT (xs ((nI i) + 1).toNatClampNeg) (xs ((nI i) + 2).toNatClampNeg) (xs ((nI i) + 3).toNatClampNeg) (xs ((nI i) + 4).toNatClampNeg)) (cwV 4 htg (oh_gV q_772 q_773 q_774 q_66 q_775) rfl rfl rfl pdVX6_cheapest ⟨Nat.le_of_ble_eq_true rfl, Nat.le_of_ble_eq_true rfl⟩) hK hP hD hG hS hA (va_recv hK (oh_pre_P hP) (ci := 6) (q0 := 0) rfl (oh_wg (by decide) (sX_0 hT))) rfl hl.1 rfl (Nat.le_of_ble_eq_true rfl) dL_law_1309 ⟨show cN + 0 ≤ 600000 by omega, show sN + 0 ≤ 7302250 by omega⟩ (fun r_1 C_3 H locs hq_2 hP hD hS => ?_)
  obtain ⟨hT, f_4, hq_2⟩ := hq_2
  have ht1 : gi (C_3 5) 1 = gi (M 0) 7 := by rw [f_4.1 5 rfl (by decide)]; exact ht1
  have ht2 : gi (C_3 0) 2 = 0 ↔ n = 74 := by rw [show gi (C_3 0) 2 = gi (C 0) 2 from congrArg vi (f_4.2 2 (by decide))]; exact ht2
  have ht3 : ga (C_3 32) = ga (M 7) := Eq.trans (congrArg ga (f_4.1 32 rfl (by decide))) ht3
  have htK := htK.x (fr_all f_4 17 23 (by decide)) (f_4.1 2 rfl (by decide))
  have hX_5 := hq_2 A0 hAX0 hok
  have hAX : absX 10 C_3 A0 := absX_eq hAX (fun k k1 k2 => fr_all f_4 10 15 (by decide) k k1 (by omega))
  have hUX : absTX 1 16 C_3 T0 := absTX_eq hUX (congrArg (fun z => gi z 7) (f_4.1 1 rfl (by decide))) (f_4.1 16 rfl (by decide))
  have hEX := ex_eq hEX (f_4.1 31 rfl (by decide))
  have hSX : absHX C_3 S0 := hx_fr hSX (f_4.1 29 rfl (by decide)) (f_4.1 30 rfl (by decide))
  refine W.widen (k := cN) (n := sN) (Nat.le_refl _) (Nat.le_refl _) ?_
  refine lv_pop hx hb dL_law_1312 rfl ?_
  refine lv_aload_n hx hb dL_law_1313 rfl (lv_at hl 1 rfl) ?_
  refine lv_aload_n hx hb dL_law_1314 rfl (lv_at hl 3 rfl) ?_
  refine lv_iload_n hx hb dL_law_1315 rfl (lv_at hl 0 rfl) ?_
  refine lv_iconst (v := 1) hx hb dL_law_1316 (by decide) ?_
  refine lv_iadd hx hb dL_law_1317 ?_
  refine va_sld hx hb hX hbl hbA hS (lw_ix hi hL (rg_c (v := 1) (lo := 1) (hi := 1) (by decide)) (by decide)) dL_law_1318 ?_
  refine lv_aload_n hx hb dL_law_1319 rfl (lv_at hl 3 rfl) ?_
  refine lv_iload_n hx hb dL_law_1320 rfl (lv_at hl 0 rfl) ?_
  refine lv_iconst (v := 2) hx hb dL_law_1321 (by decide) ?_
  refine lv_iadd hx hb dL_law_1322 ?_
  refine va_sld hx hb hX hbl hbA hS (lw_ix hi hL (rg_c (v := 2) (lo := 2) (hi := 2) (by decide)) (by decide)) dL_law_1323 ?_
  refine lv_aload_n hx hb dL_law_1324 rfl (lv_at hl 3 rfl) ?_
  refine lv_iload_n hx hb dL_law_1325 rfl (lv_at hl 0 rfl) ?_
  refine lv_iconst (v := 3) hx hb dL_law_1326 (by decide) ?_
  refine lv_iadd hx hb dL_law_1327 ?_
  refine va_sld hx hb hX hbl hbA hS (lw_ix hi hL (rg_c (v := 3) (lo := 3) (hi := 3) (by decide)) (by decide)) dL_law_1328 ?_
  refine lv_aload_n hx hb dL_law_1329 rfl (lv_at hl 3 rfl) ?_
  refine lv_iload_n hx hb dL_law_1330 rfl (lv_at hl 0 rfl) ?_
  refine lv_iconst (v := 4) hx hb dL_law_1331 (by decide) ?_
  refine lv_iadd hx hb dL_law_1332 ?_
  refine va_sld hx hb hX hbl hbA hS (lw_ix hi hL (rg_c (v := 4) (lo := 4) (hi := 4) (by decide)) (by decide)) dL_law_1333 ?_
  refine lw_cM (As := [.int (xs ((nI i) + 1).toNatClampNeg), .int (xs ((nI i) + 2).toNatClampNeg), .int (xs ((nI i) + 3).toNatClampNeg), .int (xs ((nI i) + 4).toNatClampNeg)]) (rest := []) ⟨hx, hb, hml, hown, htg⟩ (e_X7_cheapest l D E G _ ma M n hn hTM (xs ((nI i) + 1).toNatClampNeg) (xs ((nI i) + 2).toNatClampNeg) (xs ((nI i) + 3).toNatClampNeg) (xs ((nI i) + 4).toNatClampNeg) hR) (cwV 4 htg (oh_gV q_1338 q_1339 q_1340 q_73 q_1341) rfl rfl rfl pdVX7_cheapest ⟨Nat.le_of_ble_eq_true rfl, Nat.le_of_ble_eq_true rfl⟩) hK hP hD hG hS hA (va_recv hK (oh_suf_P hP) (ci := 7) (q0 := 0) rfl (oh_wg (by omega) (sM_0 hTM))) rfl hl.1 rfl (Nat.le_of_ble_eq_true rfl) dL_law_1334 ⟨show cN + 0 ≤ 600000 by omega, show sN + 0 ≤ 7302250 by omega⟩ (fun r_6 M_8 H locs hq_7 hP hD hS => ?_)
  have hTM0 := hTM
  obtain ⟨hTM, f_9, hR, hq_7⟩ := hq_7
  have hkp := kept_fr hkp f_9 (by decide)
  have ht1 : gi (C_3 5) 1 = gi (M_8 0) 7 := by rw [show gi (M_8 0) 7 = gi (M 0) 7 from congrArg vi (f_9.2 7 (by decide))]; exact ht1
  have ht3 : ga (C_3 32) = ga (M_8 7) := Eq.trans ht3 (congrArg ga (f_9.1 7 rfl (by decide))).symm
  have htK := htK.m f_9 (by decide)
  have hM_10 := hq_7 A0 hAM0 hok
  have hAM : absM M_8 A0 := absM_fr hAM hTM0 f_9 (by decide) (by decide) (by decide)
  have hUM : absTM M_8 T0 := absTM_eq hUM (f_9.1 14 rfl (by decide)) (congrArg vi (f_9.2 19 (by decide)))
  have hEM := em_eq hEM (fun s hs => f_9.1 (16 + s) (inR_out hs (by decide)) (by omega))
  have hSM : absHM M_8 S0 := hm_fr hSM (f_9.1 1 rfl (by decide)) (f_9.1 2 rfl (by decide)) (f_9.1 3 rfl (by decide)) (f_9.1 6 rfl (by decide))
  refine W.widen (k := cN) (n := sN) (Nat.le_refl _) (Nat.le_refl _) ?_
  refine lv_pop hx hb dL_law_1337 rfl ?_
  refine lv_goto (tgt := 2045) hx hb dL_law_1338 (by decide) ?_
  exact kk ma C_3 M_8 n (cN) (sN) H locs ls hT hTM hR hkp ht1 ht2 ht3 ⟨_, _, hAX, hAM, hok, hUX, hUM, _, _, hSX, hSM, hEX, hEM⟩ htK (by omega) (by omega) hP hD hS hl

set_option maxHeartbeats 4000000 in
set_option maxRecDepth 100000 in
/-- the law at a call of soonest -/
theorem lc_soonest {p : Program} {e : Env} {s : State} {m : MethodId} {below : List Frame} {meth : Method} {c : Code} (l : Launch) {b L : Nat} {xs : Nat → Int32} (C0 : lw_At p s m meth c b L xs) (hL : L ≤ 4096) {D : va_G} {E : Nat → ClassId} {G : Nat → Nat} {A : Nat → Prop} (hAe : A = fun q => s.heap.size ≤ q) (hK : va_K D vwCl (oh_ty E) s) (hG : oh_G G A s) {a : Nat → Nat} {i : Nat} (hi : i + 8 ≤ L) {ma : Nat → Nat} {C M : Nat → va_E} {n cN sN : Nat} (hT : TyX a E C) (hTM : TyM ma E M) (hR : RelM M) (hkp : KEPT E n ma M) (ht1 : gi (C 5) 1 = gi (M 0) 7) (ht2 : gi (C 0) 2 = 0 ↔ n = 74) (ht3 : ga (C 32) = ga (M 7)) (htA : ∃ (A0 : LA) (T0 : TP), absX 10 C A0 ∧ absM M A0 ∧ okA A0 ∧ absTX 1 16 C T0 ∧ absTM M T0 ∧ ∃ (S0 : HZ) (Z0 : EZ), absHX C S0 ∧ absHM M S0 ∧ absEX C S0 Z0 ∧ absEM M S0 Z0) (htK : TIEK n C M) (hcN : cN ≤ 35 + n) (hsN : sN ≤ 1477 + 16 * n) {H : Heap} {locs : List Loc} (hP : va_P D vwCl (oh_W 35 a C ++ oh_W n ma M) H) (hD : va_D A (oh_W 35 a C ++ oh_W n ma M)) (hS : va_S A s.heap H locs) {ls : Array Slot} (hl : lv_has ls 4 [(3, .int (nI i)), (2, .ref (ma 0)), (1, .ref (a 0)), (0, .ref b)]) (kk : ∀ (ma : Nat → Nat) (C M : Nat → va_E) (n cN sN : Nat) (H : Heap) (locs : List Loc) (ls : Array Slot), TyX a E C → TyM ma E M → RelM M → KEPT E n ma M → gi (C 5) 1 = gi (M 0) 7 → (gi (C 0) 2 = 0 ↔ n = 74) → ga (C 32) = ga (M 7) → (∃ (A0 : LA) (T0 : TP), absX 10 C A0 ∧ absM M A0 ∧ okA A0 ∧ absTX 1 16 C T0 ∧ absTM M T0 ∧ ∃ (S0 : HZ) (Z0 : EZ), absHX C S0 ∧ absHM M S0 ∧ absEX C S0 Z0 ∧ absEM M S0 Z0) → TIEK n C M → cN ≤ 35 + n → sN ≤ 1477 + 16 * n → va_P D vwCl (oh_W 35 a C ++ oh_W n ma M) H → va_D A (oh_W 35 a C ++ oh_W n ma M) → va_S A s.heap H locs → lv_has ls 4 [(3, .int (nI i)), (2, .ref (ma 0)), (1, .ref (a 0)), (0, .ref b)] → W p l e room_1 s m #[Value.ref b] below meth c H locs cN sN (lw_Z below #[Value.ref b] s) (F0 m 2045 ls [])) : W p l e room_1 s m #[Value.ref b] below meth c H locs cN sN (lw_Z below #[Value.ref b] s) (F0 m 1341 ls []) := by
  obtain ⟨hx, hb, hr, hml, hown, hts, hX, hbl, hlocks, hgv⟩ := id C0
  have hown : s.vm.findClass RL = some m.cls := hown
  have htg : ∀ w ∈ oh_t, w.before _ s = true := fun w h => hts w (List.mem_filter.mp h).1
  have hA : ∀ q, s.heap.size ≤ q → A q := fun q h => by rw [hAe]; exact h
  have hbA : ¬ A b := by rw [hAe]; exact Nat.not_le.mpr hbl
  have hn := hkp.le.1
  have hn8 := hkp.le.2
  have ht10 := ht1
  have ht20 := ht2
  have ht30 := ht3
  obtain ⟨A0, T0, hAX, hAM, hok, hUX, hUM, S0, Z0, hSX, hSM, hEX, hEM⟩ := htA
  have hAX0 := hAX
  have hAM0 := hAM
  have htK0 := htK
  have hSX0 := hSX
  have hSM0 := hSM
  have hEX0 := hEX
  have hEM0 := hEM
  have hUX0 := hUX
  refine lv_aload_n hx hb dL_law_1341 rfl (lv_at hl 2 rfl) ?_
  refine lv_aload_n hx hb dL_law_1342 rfl (lv_at hl 3 rfl) ?_
  refine lv_iload_n hx hb dL_law_1343 rfl (lv_at hl 0 rfl) ?_
  refine lv_iconst (v := 1) hx hb dL_law_1344 (by decide) ?_
  refine lv_iadd hx hb dL_law_1345 ?_
  refine va_sld hx hb hX hbl hbA hS (lw_ix hi hL (rg_c (v := 1) (lo := 1) (hi := 1) (by decide)) (by decide)) dL_law_1346 ?_
  refine lv_aload_n hx hb dL_law_1347 rfl (lv_at hl 3 rfl) ?_
  refine lv_iload_n hx hb dL_law_1348 rfl (lv_at hl 0 rfl) ?_
  refine lv_iconst (v := 2) hx hb dL_law_1349 (by decide) ?_
  refine lv_iadd hx hb dL_law_1350 ?_
  refine va_sld hx hb hX hbl hbA hS (lw_ix hi hL (rg_c (v := 2) (lo := 2) (hi := 2) (by decide)) (by decide)) dL_law_1351 ?_
  refine lv_aload_n hx hb dL_law_1352 rfl (lv_at hl 3 rfl) ?_
  refine lv_iload_n hx hb dL_law_1353 rfl (lv_at hl 0 rfl) ?_
  refine lv_iconst (v := 3) hx hb dL_law_1354 (by decide) ?_
  refine lv_iadd hx hb dL_law_1355 ?_
  refine va_sld hx hb hX hbl hbA hS (lw_ix hi hL (rg_c (v := 3) (lo := 3) (hi := 3) (by decide)) (by decide)) dL_law_1356 ?_
  refine lv_aload_n hx hb dL_law_1357 rfl (lv_at hl 3 rfl) ?_
  refine lv_iload_n hx hb dL_law_1358 rfl (lv_at hl 0 rfl) ?_
  refine lv_iconst (v := 4) hx hb dL_law_1359 (by decide) ?_
  refine lv_iadd hx hb dL_law_1360 ?_
  refine va_sld hx hb hX hbl hbA hS (lw_ix hi hL (rg_c (v := 4) (lo := 4) (hi := 4) (by decide)) (by decide)) dL_law_1361 ?_
  refine lw_cX (As := [.int (xs ((nI i) + 1).toNatClampNeg), .int (xs ((nI i) + 2).toNatClampNeg), .int (xs ((nI i) + 3).toNatClampNeg), .int (xs ((nI i) + 4).toNatClampNeg)]) (rest := []) ⟨hx, hb, hml, hown, htg⟩ (e_X6_soonest l D E G _ a C hT (xs ((nI i) + 1).toNatClampNeg) (xs ((nI i) + 2).toNatClampNeg) (xs ((nI i) + 3).toNatClampNeg) (xs ((nI i) + 4).toNatClampNeg)) (cwV 4 htg (oh_gV q_804 q_805 q_806 q_66 q_807) rfl rfl rfl pdVX6_soonest ⟨Nat.le_of_ble_eq_true rfl, Nat.le_of_ble_eq_true rfl⟩) hK hP hD hG hS hA (va_recv hK (oh_pre_P hP) (ci := 6) (q0 := 0) rfl (oh_wg (by decide) (sX_0 hT))) rfl hl.1 rfl (Nat.le_of_ble_eq_true rfl) dL_law_1362 ⟨show cN + 0 ≤ 600000 by omega, show sN + 0 ≤ 7302250 by omega⟩ (fun r_1 C_3 H locs hq_2 hP hD hS => ?_)
  obtain ⟨hT, f_4, hq_2⟩ := hq_2
  have ht1 : gi (C_3 5) 1 = gi (M 0) 7 := by rw [f_4.1 5 rfl (by decide)]; exact ht1
  have ht2 : gi (C_3 0) 2 = 0 ↔ n = 74 := by rw [show gi (C_3 0) 2 = gi (C 0) 2 from congrArg vi (f_4.2 2 (by decide))]; exact ht2
  have ht3 : ga (C_3 32) = ga (M 7) := Eq.trans (congrArg ga (f_4.1 32 rfl (by decide))) ht3
  have htK := htK.x (fr_all f_4 17 23 (by decide)) (f_4.1 2 rfl (by decide))
  have hX_5 := hq_2 A0 hAX0 hok
  have hAX : absX 10 C_3 A0 := absX_eq hAX (fun k k1 k2 => fr_all f_4 10 15 (by decide) k k1 (by omega))
  have hUX : absTX 1 16 C_3 T0 := absTX_eq hUX (congrArg (fun z => gi z 7) (f_4.1 1 rfl (by decide))) (f_4.1 16 rfl (by decide))
  have hEX := ex_eq hEX (f_4.1 31 rfl (by decide))
  have hSX : absHX C_3 S0 := hx_fr hSX (f_4.1 29 rfl (by decide)) (f_4.1 30 rfl (by decide))
  refine W.widen (k := cN) (n := sN) (Nat.le_refl _) (Nat.le_refl _) ?_
  refine lv_pop hx hb dL_law_1365 rfl ?_
  refine lv_aload_n hx hb dL_law_1366 rfl (lv_at hl 1 rfl) ?_
  refine lv_aload_n hx hb dL_law_1367 rfl (lv_at hl 3 rfl) ?_
  refine lv_iload_n hx hb dL_law_1368 rfl (lv_at hl 0 rfl) ?_
  refine lv_iconst (v := 1) hx hb dL_law_1369 (by decide) ?_
  refine lv_iadd hx hb dL_law_1370 ?_
  refine va_sld hx hb hX hbl hbA hS (lw_ix hi hL (rg_c (v := 1) (lo := 1) (hi := 1) (by decide)) (by decide)) dL_law_1371 ?_
  refine lv_aload_n hx hb dL_law_1372 rfl (lv_at hl 3 rfl) ?_
  refine lv_iload_n hx hb dL_law_1373 rfl (lv_at hl 0 rfl) ?_
  refine lv_iconst (v := 2) hx hb dL_law_1374 (by decide) ?_
  refine lv_iadd hx hb dL_law_1375 ?_
  refine va_sld hx hb hX hbl hbA hS (lw_ix hi hL (rg_c (v := 2) (lo := 2) (hi := 2) (by decide)) (by decide)) dL_law_1376 ?_
  refine lv_aload_n hx hb dL_law_1377 rfl (lv_at hl 3 rfl) ?_
  refine lv_iload_n hx hb dL_law_1378 rfl (lv_at hl 0 rfl) ?_
  refine lv_iconst (v := 3) hx hb dL_law_1379 (by decide) ?_
  refine lv_iadd hx hb dL_law_1380 ?_
  refine va_sld hx hb hX hbl hbA hS (lw_ix hi hL (rg_c (v := 3) (lo := 3) (hi := 3) (by decide)) (by decide)) dL_law_1381 ?_
  refine lv_aload_n hx hb dL_law_1382 rfl (lv_at hl 3 rfl) ?_
  refine lv_iload_n hx hb dL_law_1383 rfl (lv_at hl 0 rfl) ?_
  refine lv_iconst (v := 4) hx hb dL_law_1384 (by decide) ?_
  refine lv_iadd hx hb dL_law_1385 ?_
  refine va_sld hx hb hX hbl hbA hS (lw_ix hi hL (rg_c (v := 4) (lo := 4) (hi := 4) (by decide)) (by decide)) dL_law_1386 ?_
  refine lw_cM (As := [.int (xs ((nI i) + 1).toNatClampNeg), .int (xs ((nI i) + 2).toNatClampNeg), .int (xs ((nI i) + 3).toNatClampNeg), .int (xs ((nI i) + 4).toNatClampNeg)]) (rest := []) ⟨hx, hb, hml, hown, htg⟩ (e_X7_soonest l D E G _ ma M n hn hTM (xs ((nI i) + 1).toNatClampNeg) (xs ((nI i) + 2).toNatClampNeg) (xs ((nI i) + 3).toNatClampNeg) (xs ((nI i) + 4).toNatClampNeg) hR) (cwV 4 htg (oh_gV q_1360 q_1361 q_1362 q_73 q_1363) rfl rfl rfl pdVX7_soonest ⟨Nat.le_of_ble_eq_true rfl, Nat.le_of_ble_eq_true rfl⟩) hK hP hD hG hS hA (va_recv hK (oh_suf_P hP) (ci := 7) (q0 := 0) rfl (oh_wg (by omega) (sM_0 hTM))) rfl hl.1 rfl (Nat.le_of_ble_eq_true rfl) dL_law_1387 ⟨show cN + 0 ≤ 600000 by omega, show sN + 0 ≤ 7302250 by omega⟩ (fun r_6 M_8 H locs hq_7 hP hD hS => ?_)
  have hTM0 := hTM
  obtain ⟨hTM, f_9, hR, hq_7⟩ := hq_7
  have hkp := kept_fr hkp f_9 (by decide)
  have ht1 : gi (C_3 5) 1 = gi (M_8 0) 7 := by rw [show gi (M_8 0) 7 = gi (M 0) 7 from congrArg vi (f_9.2 7 (by decide))]; exact ht1
  have ht3 : ga (C_3 32) = ga (M_8 7) := Eq.trans ht3 (congrArg ga (f_9.1 7 rfl (by decide))).symm
  have htK := htK.m f_9 (by decide)
  have hM_10 := hq_7 A0 hAM0 hok
  have hAM : absM M_8 A0 := absM_fr hAM hTM0 f_9 (by decide) (by decide) (by decide)
  have hUM : absTM M_8 T0 := absTM_eq hUM (f_9.1 14 rfl (by decide)) (congrArg vi (f_9.2 19 (by decide)))
  have hEM := em_eq hEM (fun s hs => f_9.1 (16 + s) (inR_out hs (by decide)) (by omega))
  have hSM : absHM M_8 S0 := hm_fr hSM (f_9.1 1 rfl (by decide)) (f_9.1 2 rfl (by decide)) (f_9.1 3 rfl (by decide)) (f_9.1 6 rfl (by decide))
  refine W.widen (k := cN) (n := sN) (Nat.le_refl _) (Nat.le_refl _) ?_
  refine lv_pop hx hb dL_law_1390 rfl ?_
  refine lv_goto (tgt := 2045) hx hb dL_law_1391 (by decide) ?_
  exact kk ma C_3 M_8 n (cN) (sN) H locs ls hT hTM hR hkp ht1 ht2 ht3 ⟨_, _, hAX, hAM, hok, hUX, hUM, _, _, hSX, hSM, hEX, hEM⟩ htK (by omega) (by omega) hP hD hS hl

set_option maxHeartbeats 4000000 in
set_option maxRecDepth 100000 in
/-- the law at a call of again -/
theorem lc_again {p : Program} {e : Env} {s : State} {m : MethodId} {below : List Frame} {meth : Method} {c : Code} (l : Launch) {b L : Nat} {xs : Nat → Int32} (C0 : lw_At p s m meth c b L xs) (hL : L ≤ 4096) {D : va_G} {E : Nat → ClassId} {G : Nat → Nat} {A : Nat → Prop} (hAe : A = fun q => s.heap.size ≤ q) (hK : va_K D vwCl (oh_ty E) s) (hG : oh_G G A s) {a : Nat → Nat} {i : Nat} (hi : i + 8 ≤ L) {ma : Nat → Nat} {C M : Nat → va_E} {n cN sN : Nat} (hT : TyX a E C) (hTM : TyM ma E M) (hR : RelM M) (hkp : KEPT E n ma M) (ht1 : gi (C 5) 1 = gi (M 0) 7) (ht2 : gi (C 0) 2 = 0 ↔ n = 74) (ht3 : ga (C 32) = ga (M 7)) (htA : ∃ (A0 : LA) (T0 : TP), absX 10 C A0 ∧ absM M A0 ∧ okA A0 ∧ absTX 1 16 C T0 ∧ absTM M T0 ∧ ∃ (S0 : HZ) (Z0 : EZ), absHX C S0 ∧ absHM M S0 ∧ absEX C S0 Z0 ∧ absEM M S0 Z0) (htK : TIEK n C M) (hcN : cN ≤ 35 + n) (hsN : sN ≤ 1477 + 16 * n) {H : Heap} {locs : List Loc} (hP : va_P D vwCl (oh_W 35 a C ++ oh_W n ma M) H) (hD : va_D A (oh_W 35 a C ++ oh_W n ma M)) (hS : va_S A s.heap H locs) {ls : Array Slot} (hl : lv_has ls 4 [(3, .int (nI i)), (2, .ref (ma 0)), (1, .ref (a 0)), (0, .ref b)]) (kk : ∀ (ma : Nat → Nat) (C M : Nat → va_E) (n cN sN : Nat) (H : Heap) (locs : List Loc) (ls : Array Slot), TyX a E C → TyM ma E M → RelM M → KEPT E n ma M → gi (C 5) 1 = gi (M 0) 7 → (gi (C 0) 2 = 0 ↔ n = 74) → ga (C 32) = ga (M 7) → (∃ (A0 : LA) (T0 : TP), absX 10 C A0 ∧ absM M A0 ∧ okA A0 ∧ absTX 1 16 C T0 ∧ absTM M T0 ∧ ∃ (S0 : HZ) (Z0 : EZ), absHX C S0 ∧ absHM M S0 ∧ absEX C S0 Z0 ∧ absEM M S0 Z0) → TIEK n C M → cN ≤ 35 + n → sN ≤ 1477 + 16 * n → va_P D vwCl (oh_W 35 a C ++ oh_W n ma M) H → va_D A (oh_W 35 a C ++ oh_W n ma M) → va_S A s.heap H locs → lv_has ls 4 [(3, .int (nI i)), (2, .ref (ma 0)), (1, .ref (a 0)), (0, .ref b)] → W p l e room_1 s m #[Value.ref b] below meth c H locs cN sN (lw_Z below #[Value.ref b] s) (F0 m 2045 ls [])) : W p l e room_1 s m #[Value.ref b] below meth c H locs cN sN (lw_Z below #[Value.ref b] s) (F0 m 1394 ls []) := by
  obtain ⟨hx, hb, hr, hml, hown, hts, hX, hbl, hlocks, hgv⟩ := id C0
  have hown : s.vm.findClass RL = some m.cls := hown
  have htg : ∀ w ∈ oh_t, w.before _ s = true := fun w h => hts w (List.mem_filter.mp h).1
  have hA : ∀ q, s.heap.size ≤ q → A q := fun q h => by rw [hAe]; exact h
  have hbA : ¬ A b := by rw [hAe]; exact Nat.not_le.mpr hbl
  have hn := hkp.le.1
  have hn8 := hkp.le.2
  have ht10 := ht1
  have ht20 := ht2
  have ht30 := ht3
  obtain ⟨A0, T0, hAX, hAM, hok, hUX, hUM, S0, Z0, hSX, hSM, hEX, hEM⟩ := htA
  have hAX0 := hAX
  have hAM0 := hAM
  have htK0 := htK
  have hSX0 := hSX
  have hSM0 := hSM
  have hEX0 := hEX
  have hEM0 := hEM
  have hUX0 := hUX
  refine lv_aload_n hx hb dL_law_1394 rfl (lv_at hl 2 rfl) ?_
  refine lv_aload_n hx hb dL_law_1395 rfl (lv_at hl 3 rfl) ?_
  refine lv_iload_n hx hb dL_law_1396 rfl (lv_at hl 0 rfl) ?_
  refine lv_iconst (v := 1) hx hb dL_law_1397 (by decide) ?_
  refine lv_iadd hx hb dL_law_1398 ?_
  refine va_sld hx hb hX hbl hbA hS (lw_ix hi hL (rg_c (v := 1) (lo := 1) (hi := 1) (by decide)) (by decide)) dL_law_1399 ?_
  refine lv_aload_n hx hb dL_law_1400 rfl (lv_at hl 3 rfl) ?_
  refine lv_iload_n hx hb dL_law_1401 rfl (lv_at hl 0 rfl) ?_
  refine lv_iconst (v := 2) hx hb dL_law_1402 (by decide) ?_
  refine lv_iadd hx hb dL_law_1403 ?_
  refine va_sld hx hb hX hbl hbA hS (lw_ix hi hL (rg_c (v := 2) (lo := 2) (hi := 2) (by decide)) (by decide)) dL_law_1404 ?_
  refine lv_aload_n hx hb dL_law_1405 rfl (lv_at hl 3 rfl) ?_
  refine lv_iload_n hx hb dL_law_1406 rfl (lv_at hl 0 rfl) ?_
  refine lv_iconst (v := 3) hx hb dL_law_1407 (by decide) ?_
  refine lv_iadd hx hb dL_law_1408 ?_
  refine va_sld hx hb hX hbl hbA hS (lw_ix hi hL (rg_c (v := 3) (lo := 3) (hi := 3) (by decide)) (by decide)) dL_law_1409 ?_
  refine lv_aload_n hx hb dL_law_1410 rfl (lv_at hl 3 rfl) ?_
  refine lv_iload_n hx hb dL_law_1411 rfl (lv_at hl 0 rfl) ?_
  refine lv_iconst (v := 4) hx hb dL_law_1412 (by decide) ?_
  refine lv_iadd hx hb dL_law_1413 ?_
  refine va_sld hx hb hX hbl hbA hS (lw_ix hi hL (rg_c (v := 4) (lo := 4) (hi := 4) (by decide)) (by decide)) dL_law_1414 ?_
  refine lv_aload_n hx hb dL_law_1415 rfl (lv_at hl 3 rfl) ?_
  refine lv_iload_n hx hb dL_law_1416 rfl (lv_at hl 0 rfl) ?_
  refine lv_iconst (v := 5) hx hb dL_law_1417 (by decide) ?_
  refine lv_iadd hx hb dL_law_1418 ?_
  refine va_sld hx hb hX hbl hbA hS (lw_ix hi hL (rg_c (v := 5) (lo := 5) (hi := 5) (by decide)) (by decide)) dL_law_1419 ?_
  refine lw_cX (As := [.int (xs ((nI i) + 1).toNatClampNeg), .int (xs ((nI i) + 2).toNatClampNeg), .int (xs ((nI i) + 3).toNatClampNeg), .int (xs ((nI i) + 4).toNatClampNeg), .int (xs ((nI i) + 5).toNatClampNeg)]) (rest := []) ⟨hx, hb, hml, hown, htg⟩ (e_X6_again l D E G _ a C hT (xs ((nI i) + 1).toNatClampNeg) (xs ((nI i) + 2).toNatClampNeg) (xs ((nI i) + 3).toNatClampNeg) (xs ((nI i) + 4).toNatClampNeg) (xs ((nI i) + 5).toNatClampNeg)) (cwV 5 htg (oh_gV q_813 q_814 q_815 q_66 q_816) rfl rfl rfl pdVX6_again ⟨Nat.le_of_ble_eq_true rfl, Nat.le_of_ble_eq_true rfl⟩) hK hP hD hG hS hA (va_recv hK (oh_pre_P hP) (ci := 6) (q0 := 0) rfl (oh_wg (by decide) (sX_0 hT))) rfl hl.1 rfl (Nat.le_of_ble_eq_true rfl) dL_law_1420 ⟨show cN + 0 ≤ 600000 by omega, show sN + 0 ≤ 7302250 by omega⟩ (fun r_1 C_3 H locs hq_2 hP hD hS => ?_)
  obtain ⟨hT, f_4, hq_2⟩ := hq_2
  have ht1 : gi (C_3 5) 1 = gi (M 0) 7 := by rw [f_4.1 5 rfl (by decide)]; exact ht1
  have ht2 : gi (C_3 0) 2 = 0 ↔ n = 74 := by rw [show gi (C_3 0) 2 = gi (C 0) 2 from congrArg vi (f_4.2 2 (by decide))]; exact ht2
  have ht3 : ga (C_3 32) = ga (M 7) := Eq.trans (congrArg ga (f_4.1 32 rfl (by decide))) ht3
  have htK := htK.x (fr_all f_4 17 23 (by decide)) (f_4.1 2 rfl (by decide))
  have hX_5 := hq_2 A0 hAX0 hok
  have hAX : absX 10 C_3 A0 := absX_eq hAX (fun k k1 k2 => fr_all f_4 10 15 (by decide) k k1 (by omega))
  have hUX : absTX 1 16 C_3 T0 := absTX_eq hUX (congrArg (fun z => gi z 7) (f_4.1 1 rfl (by decide))) (f_4.1 16 rfl (by decide))
  have hEX := ex_eq hEX (f_4.1 31 rfl (by decide))
  have hSX : absHX C_3 S0 := hx_fr hSX (f_4.1 29 rfl (by decide)) (f_4.1 30 rfl (by decide))
  refine W.widen (k := cN) (n := sN) (Nat.le_refl _) (Nat.le_refl _) ?_
  refine lv_pop hx hb dL_law_1423 rfl ?_
  refine lv_aload_n hx hb dL_law_1424 rfl (lv_at hl 1 rfl) ?_
  refine lv_aload_n hx hb dL_law_1425 rfl (lv_at hl 3 rfl) ?_
  refine lv_iload_n hx hb dL_law_1426 rfl (lv_at hl 0 rfl) ?_
  refine lv_iconst (v := 1) hx hb dL_law_1427 (by decide) ?_
  refine lv_iadd hx hb dL_law_1428 ?_
  refine va_sld hx hb hX hbl hbA hS (lw_ix hi hL (rg_c (v := 1) (lo := 1) (hi := 1) (by decide)) (by decide)) dL_law_1429 ?_
  refine lv_aload_n hx hb dL_law_1430 rfl (lv_at hl 3 rfl) ?_
  refine lv_iload_n hx hb dL_law_1431 rfl (lv_at hl 0 rfl) ?_
  refine lv_iconst (v := 2) hx hb dL_law_1432 (by decide) ?_
  refine lv_iadd hx hb dL_law_1433 ?_
  refine va_sld hx hb hX hbl hbA hS (lw_ix hi hL (rg_c (v := 2) (lo := 2) (hi := 2) (by decide)) (by decide)) dL_law_1434 ?_
  refine lv_aload_n hx hb dL_law_1435 rfl (lv_at hl 3 rfl) ?_
  refine lv_iload_n hx hb dL_law_1436 rfl (lv_at hl 0 rfl) ?_
  refine lv_iconst (v := 3) hx hb dL_law_1437 (by decide) ?_
  refine lv_iadd hx hb dL_law_1438 ?_
  refine va_sld hx hb hX hbl hbA hS (lw_ix hi hL (rg_c (v := 3) (lo := 3) (hi := 3) (by decide)) (by decide)) dL_law_1439 ?_
  refine lv_aload_n hx hb dL_law_1440 rfl (lv_at hl 3 rfl) ?_
  refine lv_iload_n hx hb dL_law_1441 rfl (lv_at hl 0 rfl) ?_
  refine lv_iconst (v := 4) hx hb dL_law_1442 (by decide) ?_
  refine lv_iadd hx hb dL_law_1443 ?_
  refine va_sld hx hb hX hbl hbA hS (lw_ix hi hL (rg_c (v := 4) (lo := 4) (hi := 4) (by decide)) (by decide)) dL_law_1444 ?_
  refine lv_aload_n hx hb dL_law_1445 rfl (lv_at hl 3 rfl) ?_
  refine lv_iload_n hx hb dL_law_1446 rfl (lv_at hl 0 rfl) ?_
  refine lv_iconst (v := 5) hx hb dL_law_1447 (by decide) ?_
  refine lv_iadd hx hb dL_law_1448 ?_
  refine va_sld hx hb hX hbl hbA hS (lw_ix hi hL (rg_c (v := 5) (lo := 5) (hi := 5) (by decide)) (by decide)) dL_law_1449 ?_
  refine lw_cM (As := [.int (xs ((nI i) + 1).toNatClampNeg), .int (xs ((nI i) + 2).toNatClampNeg), .int (xs ((nI i) + 3).toNatClampNeg), .int (xs ((nI i) + 4).toNatClampNeg), .int (xs ((nI i) + 5).toNatClampNeg)]) (rest := []) ⟨hx, hb, hml, hown, htg⟩ (e_X7_again l D E G _ ma M n hn hTM (xs ((nI i) + 1).toNatClampNeg) (xs ((nI i) + 2).toNatClampNeg) (xs ((nI i) + 3).toNatClampNeg) (xs ((nI i) + 4).toNatClampNeg) (xs ((nI i) + 5).toNatClampNeg) hR) (cwV 5 htg (oh_gV q_1364 q_1343 q_1344 q_73 q_1345) rfl rfl rfl pdVX7_again ⟨Nat.le_of_ble_eq_true rfl, Nat.le_of_ble_eq_true rfl⟩) hK hP hD hG hS hA (va_recv hK (oh_suf_P hP) (ci := 7) (q0 := 0) rfl (oh_wg (by omega) (sM_0 hTM))) rfl hl.1 rfl (Nat.le_of_ble_eq_true rfl) dL_law_1450 ⟨show cN + 0 ≤ 600000 by omega, show sN + 0 ≤ 7302250 by omega⟩ (fun r_6 M_8 H locs hq_7 hP hD hS => ?_)
  have hTM0 := hTM
  obtain ⟨hTM, f_9, hR, hq_7⟩ := hq_7
  have hkp := kept_fr hkp f_9 (by decide)
  have ht1 : gi (C_3 5) 1 = gi (M_8 0) 7 := by rw [show gi (M_8 0) 7 = gi (M 0) 7 from congrArg vi (f_9.2 7 (by decide))]; exact ht1
  have ht3 : ga (C_3 32) = ga (M_8 7) := Eq.trans ht3 (congrArg ga (f_9.1 7 rfl (by decide))).symm
  have htK := htK.m f_9 (by decide)
  have hM_10 := hq_7 A0 hAM0 hok
  have hAM : absM M_8 A0 := absM_fr hAM hTM0 f_9 (by decide) (by decide) (by decide)
  have hUM : absTM M_8 T0 := absTM_eq hUM (f_9.1 14 rfl (by decide)) (congrArg vi (f_9.2 19 (by decide)))
  have hEM := em_eq hEM (fun s hs => f_9.1 (16 + s) (inR_out hs (by decide)) (by omega))
  have hSM : absHM M_8 S0 := hm_fr hSM (f_9.1 1 rfl (by decide)) (f_9.1 2 rfl (by decide)) (f_9.1 3 rfl (by decide)) (f_9.1 6 rfl (by decide))
  refine W.widen (k := cN) (n := sN) (Nat.le_refl _) (Nat.le_refl _) ?_
  refine lv_pop hx hb dL_law_1453 rfl ?_
  refine lv_goto (tgt := 2045) hx hb dL_law_1454 (by decide) ?_
  exact kk ma C_3 M_8 n (cN) (sN) H locs ls hT hTM hR hkp ht1 ht2 ht3 ⟨_, _, hAX, hAM, hok, hUX, hUM, _, _, hSX, hSM, hEX, hEM⟩ htK (by omega) (by omega) hP hD hS hl

set_option maxHeartbeats 4000000 in
set_option maxRecDepth 100000 in
/-- the law at a call of best -/
theorem lc_best {p : Program} {e : Env} {s : State} {m : MethodId} {below : List Frame} {meth : Method} {c : Code} (l : Launch) {b L : Nat} {xs : Nat → Int32} (C0 : lw_At p s m meth c b L xs) (hL : L ≤ 4096) {D : va_G} {E : Nat → ClassId} {G : Nat → Nat} {A : Nat → Prop} (hAe : A = fun q => s.heap.size ≤ q) (hK : va_K D vwCl (oh_ty E) s) (hG : oh_G G A s) {a : Nat → Nat} {i : Nat} (hi : i + 8 ≤ L) {ma : Nat → Nat} {C M : Nat → va_E} {n cN sN : Nat} (hT : TyX a E C) (hTM : TyM ma E M) (hR : RelM M) (hkp : KEPT E n ma M) (ht1 : gi (C 5) 1 = gi (M 0) 7) (ht2 : gi (C 0) 2 = 0 ↔ n = 74) (ht3 : ga (C 32) = ga (M 7)) (htA : ∃ (A0 : LA) (T0 : TP), absX 10 C A0 ∧ absM M A0 ∧ okA A0 ∧ absTX 1 16 C T0 ∧ absTM M T0 ∧ ∃ (S0 : HZ) (Z0 : EZ), absHX C S0 ∧ absHM M S0 ∧ absEX C S0 Z0 ∧ absEM M S0 Z0) (htK : TIEK n C M) (hcN : cN ≤ 35 + n) (hsN : sN ≤ 1477 + 16 * n) {H : Heap} {locs : List Loc} (hP : va_P D vwCl (oh_W 35 a C ++ oh_W n ma M) H) (hD : va_D A (oh_W 35 a C ++ oh_W n ma M)) (hS : va_S A s.heap H locs) {ls : Array Slot} (hl : lv_has ls 4 [(3, .int (nI i)), (2, .ref (ma 0)), (1, .ref (a 0)), (0, .ref b)]) (kk : ∀ (ma : Nat → Nat) (C M : Nat → va_E) (n cN sN : Nat) (H : Heap) (locs : List Loc) (ls : Array Slot), TyX a E C → TyM ma E M → RelM M → KEPT E n ma M → gi (C 5) 1 = gi (M 0) 7 → (gi (C 0) 2 = 0 ↔ n = 74) → ga (C 32) = ga (M 7) → (∃ (A0 : LA) (T0 : TP), absX 10 C A0 ∧ absM M A0 ∧ okA A0 ∧ absTX 1 16 C T0 ∧ absTM M T0 ∧ ∃ (S0 : HZ) (Z0 : EZ), absHX C S0 ∧ absHM M S0 ∧ absEX C S0 Z0 ∧ absEM M S0 Z0) → TIEK n C M → cN ≤ 35 + n → sN ≤ 1477 + 16 * n → va_P D vwCl (oh_W 35 a C ++ oh_W n ma M) H → va_D A (oh_W 35 a C ++ oh_W n ma M) → va_S A s.heap H locs → lv_has ls 4 [(3, .int (nI i)), (2, .ref (ma 0)), (1, .ref (a 0)), (0, .ref b)] → W p l e room_1 s m #[Value.ref b] below meth c H locs cN sN (lw_Z below #[Value.ref b] s) (F0 m 2045 ls [])) : W p l e room_1 s m #[Value.ref b] below meth c H locs cN sN (lw_Z below #[Value.ref b] s) (F0 m 1457 ls []) := by
  obtain ⟨hx, hb, hr, hml, hown, hts, hX, hbl, hlocks, hgv⟩ := id C0
  have hown : s.vm.findClass RL = some m.cls := hown
  have htg : ∀ w ∈ oh_t, w.before _ s = true := fun w h => hts w (List.mem_filter.mp h).1
  have hA : ∀ q, s.heap.size ≤ q → A q := fun q h => by rw [hAe]; exact h
  have hbA : ¬ A b := by rw [hAe]; exact Nat.not_le.mpr hbl
  have hn := hkp.le.1
  have hn8 := hkp.le.2
  have ht10 := ht1
  have ht20 := ht2
  have ht30 := ht3
  obtain ⟨A0, T0, hAX, hAM, hok, hUX, hUM, S0, Z0, hSX, hSM, hEX, hEM⟩ := htA
  have hAX0 := hAX
  have hAM0 := hAM
  have htK0 := htK
  have hSX0 := hSX
  have hSM0 := hSM
  have hEX0 := hEX
  have hEM0 := hEM
  have hUX0 := hUX
  refine lv_aload_n hx hb dL_law_1457 rfl (lv_at hl 2 rfl) ?_
  refine lv_aload_n hx hb dL_law_1458 rfl (lv_at hl 3 rfl) ?_
  refine lv_iload_n hx hb dL_law_1459 rfl (lv_at hl 0 rfl) ?_
  refine lv_iconst (v := 1) hx hb dL_law_1460 (by decide) ?_
  refine lv_iadd hx hb dL_law_1461 ?_
  refine va_sld hx hb hX hbl hbA hS (lw_ix hi hL (rg_c (v := 1) (lo := 1) (hi := 1) (by decide)) (by decide)) dL_law_1462 ?_
  refine lv_aload_n hx hb dL_law_1463 rfl (lv_at hl 3 rfl) ?_
  refine lv_iload_n hx hb dL_law_1464 rfl (lv_at hl 0 rfl) ?_
  refine lv_iconst (v := 2) hx hb dL_law_1465 (by decide) ?_
  refine lv_iadd hx hb dL_law_1466 ?_
  refine va_sld hx hb hX hbl hbA hS (lw_ix hi hL (rg_c (v := 2) (lo := 2) (hi := 2) (by decide)) (by decide)) dL_law_1467 ?_
  refine lv_aload_n hx hb dL_law_1468 rfl (lv_at hl 3 rfl) ?_
  refine lv_iload_n hx hb dL_law_1469 rfl (lv_at hl 0 rfl) ?_
  refine lv_iconst (v := 3) hx hb dL_law_1470 (by decide) ?_
  refine lv_iadd hx hb dL_law_1471 ?_
  refine va_sld hx hb hX hbl hbA hS (lw_ix hi hL (rg_c (v := 3) (lo := 3) (hi := 3) (by decide)) (by decide)) dL_law_1472 ?_
  refine lw_cX (As := [.int (xs ((nI i) + 1).toNatClampNeg), .int (xs ((nI i) + 2).toNatClampNeg), .int (xs ((nI i) + 3).toNatClampNeg)]) (rest := []) ⟨hx, hb, hml, hown, htg⟩ (c_X6_best l D E G _ a C hT (xs ((nI i) + 1).toNatClampNeg) (xs ((nI i) + 2).toNatClampNeg) (xs ((nI i) + 3).toNatClampNeg)) (cwV 3 htg (oh_gV q_817 q_818 q_819 q_66 q_820) rfl rfl rfl pdVX6_best ⟨Nat.le_of_ble_eq_true rfl, Nat.le_of_ble_eq_true rfl⟩) hK hP hD hG hS hA (va_recv hK (oh_pre_P hP) (ci := 6) (q0 := 0) rfl (oh_wg (by decide) (sX_0 hT))) rfl hl.1 rfl (Nat.le_of_ble_eq_true rfl) dL_law_1473 ⟨show cN + 0 ≤ 600000 by omega, show sN + 0 ≤ 7302250 by omega⟩ (fun r_1 C_3 H locs hq_2 hP hD hS => ?_)
  obtain ⟨hT, f_4, hq_2⟩ := hq_2
  have ht1 : gi (C_3 5) 1 = gi (M 0) 7 := by rw [f_4.1 5 rfl (by decide)]; exact ht1
  have ht2 : gi (C_3 0) 2 = 0 ↔ n = 74 := by rw [show gi (C_3 0) 2 = gi (C 0) 2 from congrArg vi (f_4.2 2 (by decide))]; exact ht2
  have ht3 : ga (C_3 32) = ga (M 7) := Eq.trans (congrArg ga (f_4.1 32 rfl (by decide))) ht3
  have htK := htK.x (fr_all f_4 17 23 (by decide)) (f_4.1 2 rfl (by decide))
  have hAX : absX 10 C_3 A0 := absX_eq hAX (fun k k1 k2 => fr_all f_4 10 15 (by decide) k k1 (by omega))
  have hUX : absTX 1 16 C_3 T0 := absTX_eq hUX (congrArg (fun z => gi z 7) (f_4.1 1 rfl (by decide))) (f_4.1 16 rfl (by decide))
  have hEX := ex_eq hEX (f_4.1 31 rfl (by decide))
  have hSX : absHX C_3 S0 := hx_fr hSX (f_4.1 29 rfl (by decide)) (f_4.1 30 rfl (by decide))
  refine W.widen (k := cN) (n := sN) (Nat.le_refl _) (Nat.le_refl _) ?_
  refine lv_pop hx hb dL_law_1476 rfl ?_
  refine lv_aload_n hx hb dL_law_1477 rfl (lv_at hl 1 rfl) ?_
  refine lv_aload_n hx hb dL_law_1478 rfl (lv_at hl 3 rfl) ?_
  refine lv_iload_n hx hb dL_law_1479 rfl (lv_at hl 0 rfl) ?_
  refine lv_iconst (v := 1) hx hb dL_law_1480 (by decide) ?_
  refine lv_iadd hx hb dL_law_1481 ?_
  refine va_sld hx hb hX hbl hbA hS (lw_ix hi hL (rg_c (v := 1) (lo := 1) (hi := 1) (by decide)) (by decide)) dL_law_1482 ?_
  refine lv_aload_n hx hb dL_law_1483 rfl (lv_at hl 3 rfl) ?_
  refine lv_iload_n hx hb dL_law_1484 rfl (lv_at hl 0 rfl) ?_
  refine lv_iconst (v := 2) hx hb dL_law_1485 (by decide) ?_
  refine lv_iadd hx hb dL_law_1486 ?_
  refine va_sld hx hb hX hbl hbA hS (lw_ix hi hL (rg_c (v := 2) (lo := 2) (hi := 2) (by decide)) (by decide)) dL_law_1487 ?_
  refine lv_aload_n hx hb dL_law_1488 rfl (lv_at hl 3 rfl) ?_
  refine lv_iload_n hx hb dL_law_1489 rfl (lv_at hl 0 rfl) ?_
  refine lv_iconst (v := 3) hx hb dL_law_1490 (by decide) ?_
  refine lv_iadd hx hb dL_law_1491 ?_
  refine va_sld hx hb hX hbl hbA hS (lw_ix hi hL (rg_c (v := 3) (lo := 3) (hi := 3) (by decide)) (by decide)) dL_law_1492 ?_
  refine lw_cM (As := [.int (xs ((nI i) + 1).toNatClampNeg), .int (xs ((nI i) + 2).toNatClampNeg), .int (xs ((nI i) + 3).toNatClampNeg)]) (rest := []) ⟨hx, hb, hml, hown, htg⟩ (c_X7_best l D E G _ ma M n hn hTM (xs ((nI i) + 1).toNatClampNeg) (xs ((nI i) + 2).toNatClampNeg) (xs ((nI i) + 3).toNatClampNeg) hR) (cwV 3 htg (oh_gV q_1365 q_1366 q_1367 q_73 q_1368) rfl rfl rfl pdVX7_best ⟨Nat.le_of_ble_eq_true rfl, Nat.le_of_ble_eq_true rfl⟩) hK hP hD hG hS hA (va_recv hK (oh_suf_P hP) (ci := 7) (q0 := 0) rfl (oh_wg (by omega) (sM_0 hTM))) rfl hl.1 rfl (Nat.le_of_ble_eq_true rfl) dL_law_1493 ⟨show cN + 0 ≤ 600000 by omega, show sN + 0 ≤ 7302250 by omega⟩ (fun r_5 M_7 H locs hq_6 hP hD hS => ?_)
  have hTM0 := hTM
  obtain ⟨hTM, f_8, hR⟩ := hq_6
  have hkp := kept_fr hkp f_8 (by decide)
  have ht1 : gi (C_3 5) 1 = gi (M_7 0) 7 := by rw [show gi (M_7 0) 7 = gi (M 0) 7 from congrArg vi (f_8.2 7 (by decide))]; exact ht1
  have ht3 : ga (C_3 32) = ga (M_7 7) := Eq.trans ht3 (congrArg ga (f_8.1 7 rfl (by decide))).symm
  have htK := htK.m f_8 (by decide)
  have hAM : absM M_7 A0 := absM_fr hAM hTM0 f_8 (by decide) (by decide) (by decide)
  have hUM : absTM M_7 T0 := absTM_eq hUM (f_8.1 14 rfl (by decide)) (congrArg vi (f_8.2 19 (by decide)))
  have hEM := em_eq hEM (fun s hs => f_8.1 (16 + s) (inR_out hs (by decide)) (by omega))
  have hSM : absHM M_7 S0 := hm_fr hSM (f_8.1 1 rfl (by decide)) (f_8.1 2 rfl (by decide)) (f_8.1 3 rfl (by decide)) (f_8.1 6 rfl (by decide))
  refine W.widen (k := cN) (n := sN) (Nat.le_refl _) (Nat.le_refl _) ?_
  refine lv_pop hx hb dL_law_1496 rfl ?_
  refine lv_goto (tgt := 2045) hx hb dL_law_1497 (by decide) ?_
  exact kk ma C_3 M_7 n (cN) (sN) H locs ls hT hTM hR hkp ht1 ht2 ht3 ⟨_, _, hAX, hAM, hok, hUX, hUM, _, _, hSX, hSM, hEX, hEM⟩ htK (by omega) (by omega) hP hD hS hl
