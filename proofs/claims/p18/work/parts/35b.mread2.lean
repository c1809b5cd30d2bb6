set_option maxHeartbeats 4000000 in
set_option maxRecDepth 100000 in
theorem c_X7_statement (l : Launch) (D : va_G) (E : Nat → ClassId) (G : Nat → Nat) (sz : Nat) (a : Nat → Nat) (C : Nat → va_E) (n : Nat) (hn : 74 ≤ n) (hT : TyM a E C) (hat : (gi (C 0) 21).toInt ≤ (gi (C 0) 7).toInt) (hR : RelW C) : Met l yX7_statement (oh_w yX7_statement cX7_statement 2 (some .boolean)) ({ frames := 8, cells := 0, slots := 0, locals := 178 }) (oh_Pm D E G [.ref (a 0)] (oh_W n a C) sz) (va_Qi (fun r (u : Nat → va_E) => TyM a E u ∧ fr [(13, 14), (24, 48), (48, 64), (64, 69), (69, 74)] [9, 11, 13, 15, 21, 22, 23, 24, 25] C u ∧ (r = 0 ∨ r = 1) ∧ (((gi (C 0) 21).toInt ≤ (gi (u 0) 21).toInt) ∧ ((gi (u 0) 21).toInt ≤ (gi (u 0) 7).toInt)) ∧ (r ≠ 0 → ((gi (C 0) 23).toInt + 3 ≤ (gi (u 0) 21).toInt)) ∧ (RelW u) ∧ ((gi (C 0) 13).toInt ≤ (gi (u 0) 13).toInt)) (oh_B D (va_A (oh_W n a C) sz) (fun u => oh_W n a u)) (va_A (oh_W n a C) sz)) 0 0 (va_A (oh_W n a C) sz) := by
  refine Met.ofW (cc := cX7_statement) (maxL := 2) (ret := (some .boolean)) (by decide) rfl ?_
  intro p e s m args below meth c s₁ B hml hv
  obtain ⟨rfl, hsz, hP, hK, hD0, hG⟩ := hv
  have hx := B.exec
  have hb := B.bytes
  have hr := B.returns
  have hts := atoms_spec (ws := (oh_w yX7_statement cX7_statement 2 (some .boolean))) B.pre
  have htg : ∀ w ∈ oh_t, w.before _ s = true := fun w h => hts w (List.mem_cons_of_mem _ h)
  have hown : s.vm.findClass RX7 = some m.cls := findClass_of_methodNamed B.named
  have hlocks := B.notSynchronized
  have hT0 := hT
  subst hsz
  have hD := hD0.self (sz := s.heap.size)
  generalize hAe : va_A (oh_W n a C) s.heap.size = A at hD hG ⊢
  have hA : ∀ q : Nat, s.heap.size ≤ q → A q := fun q h => by rw [← hAe]; exact Or.inr h
  have hS : va_S A s.heap s.heap [] := va_S.rf
  have hF : fr [(13, 14), (24, 48), (48, 64), (64, 69), (69, 74)] [9, 11, 13, 15, 21, 22, 23, 24, 25] C C := fr_rf
  have hl := lv_entry ([.ref (a 0)]) (n := 2) (Nat.le_of_ble_eq_true rfl)
  rw [lg_entry_eq]
  generalize (lg_sl ([.ref (a 0)]) ++ List.replicate (2 - (lg_sl ([.ref (a 0)])).length) Slot.unset).toArray = ls at hl ⊢
  have hl : lv_has ls 2 [(0, .ref (a 0))] := hl
  refine oh_genQ (fun Q hQ => ?_)
  refine lv_aload_n hx hb dX7_statement_0 rfl (lv_at hl 0 rfl) ?_
  refine va_ldcS hx hb hown (hG.2.2.1 ("OneHeavyLoadModel", 200, "road", 20) (List.mem_of_getElem? (i := 17) rfl)) dX7_statement_1 ?_
  refine tq_V (As := [.ref (G (3 + 17))]) (rest := []) (ws := (oh_W n a C)) ⟨hx, hb, hml, hown, htg⟩ (c_X7_isWord l D E G a C n hn hT 17 (by decide)) (cwV 1 htg (oh_gV q_1215 q_1217 q_41 q_73 q_1218) rfl rfl rfl pdVX7_isWord ⟨Nat.le_of_ble_eq_true rfl, Nat.le_of_ble_eq_true rfl⟩) hK hP hG hS (va_recv hK hP (ci := 7) (q0 := 0) rfl (oh_wg (Nat.lt_of_lt_of_le (by decide) hn) (sM_0 hT))) rfl hl.1 rfl (Nat.le_of_ble_eq_true rfl) dX7_statement_3 ⟨Nat.le_of_ble_eq_true rfl, Nat.le_of_ble_eq_true rfl⟩ (fun r_1 hq_2 => ?_)
  refine lv_if_eq (tgt := 32) hx hb dX7_statement_6 (by decide) (fun (c_3 : r_1 = 0) => ?_) (fun (c_3 : ¬ (r_1 = 0)) => ?_)
  · refine lv_aload_n hx hb dX7_statement_32 rfl (lv_at hl 0 rfl) ?_
    refine va_ldcS hx hb hown (hG.2.2.1 ("OneHeavyLoadModel", 205, "bridge", 25) (List.mem_of_getElem? (i := 22) rfl)) dX7_statement_33 ?_
    refine tq_V (As := [.ref (G (3 + 22))]) (rest := []) (ws := (oh_W n a C)) ⟨hx, hb, hml, hown, htg⟩ (c_X7_isWord l D E G a C n hn hT 22 (by decide)) (cwV 1 htg (oh_gV q_1215 q_1217 q_41 q_73 q_1218) rfl rfl rfl pdVX7_isWord ⟨Nat.le_of_ble_eq_true rfl, Nat.le_of_ble_eq_true rfl⟩) hK hP hG hS (va_recv hK hP (ci := 7) (q0 := 0) rfl (oh_wg (Nat.lt_of_lt_of_le (by decide) hn) (sM_0 hT))) rfl hl.1 rfl (Nat.le_of_ble_eq_true rfl) dX7_statement_35 ⟨Nat.le_of_ble_eq_true rfl, Nat.le_of_ble_eq_true rfl⟩ (fun r_4 hq_5 => ?_)
    refine lv_if_eq (tgt := 64) hx hb dX7_statement_38 (by decide) (fun (c_6 : r_4 = 0) => ?_) (fun (c_6 : ¬ (r_4 = 0)) => ?_)
    · refine lv_aload_n hx hb dX7_statement_64 rfl (lv_at hl 0 rfl) ?_
      refine va_ldcS hx hb hown (hG.2.2.1 ("OneHeavyLoadModel", 209, "waggon", 31) (List.mem_of_getElem? (i := 28) rfl)) dX7_statement_65 ?_
      refine tq_V (As := [.ref (G (3 + 28))]) (rest := []) (ws := (oh_W n a C)) ⟨hx, hb, hml, hown, htg⟩ (c_X7_isWord l D E G a C n hn hT 28 (by decide)) (cwV 1 htg (oh_gV q_1215 q_1217 q_41 q_73 q_1218) rfl rfl rfl pdVX7_isWord ⟨Nat.le_of_ble_eq_true rfl, Nat.le_of_ble_eq_true rfl⟩) hK hP hG hS (va_recv hK hP (ci := 7) (q0 := 0) rfl (oh_wg (Nat.lt_of_lt_of_le (by decide) hn) (sM_0 hT))) rfl hl.1 rfl (Nat.le_of_ble_eq_true rfl) dX7_statement_67 ⟨Nat.le_of_ble_eq_true rfl, Nat.le_of_ble_eq_true rfl⟩ (fun r_7 hq_8 => ?_)
      refine lv_if_eq (tgt := 147) hx hb dX7_statement_70 (by decide) (fun (c_9 : r_7 = 0) => ?_) (fun (c_9 : ¬ (r_7 = 0)) => ?_)
      · refine lv_aload_n hx hb dX7_statement_147 rfl (lv_at hl 0 rfl) ?_
        refine va_ldcS hx hb hown (hG.2.2.1 ("OneHeavyLoadModel", 214, "part", 34) (List.mem_of_getElem? (i := 31) rfl)) dX7_statement_148 ?_
        refine tq_V (As := [.ref (G (3 + 31))]) (rest := []) (ws := (oh_W n a C)) ⟨hx, hb, hml, hown, htg⟩ (c_X7_isWord l D E G a C n hn hT 31 (by decide)) (cwV 1 htg (oh_gV q_1215 q_1217 q_41 q_73 q_1218) rfl rfl rfl pdVX7_isWord ⟨Nat.le_of_ble_eq_true rfl, Nat.le_of_ble_eq_true rfl⟩) hK hP hG hS (va_recv hK hP (ci := 7) (q0 := 0) rfl (oh_wg (Nat.lt_of_lt_of_le (by decide) hn) (sM_0 hT))) rfl hl.1 rfl (Nat.le_of_ble_eq_true rfl) dX7_statement_150 ⟨Nat.le_of_ble_eq_true rfl, Nat.le_of_ble_eq_true rfl⟩ (fun r_10 hq_11 => ?_)
        refine lv_if_eq (tgt := 220) hx hb dX7_statement_153 (by decide) (fun (c_12 : r_10 = 0) => ?_) (fun (c_12 : ¬ (r_10 = 0)) => ?_)
        · refine lv_aload_n hx hb dX7_statement_220 rfl (lv_at hl 0 rfl) ?_
          refine va_ldcS hx hb hown (hG.2.2.1 ("OneHeavyLoadModel", 215, "load", 35) (List.mem_of_getElem? (i := 32) rfl)) dX7_statement_221 ?_
          refine tq_V (As := [.ref (G (3 + 32))]) (rest := []) (ws := (oh_W n a C)) ⟨hx, hb, hml, hown, htg⟩ (c_X7_isWord l D E G a C n hn hT 32 (by decide)) (cwV 1 htg (oh_gV q_1215 q_1217 q_41 q_73 q_1218) rfl rfl rfl pdVX7_isWord ⟨Nat.le_of_ble_eq_true rfl, Nat.le_of_ble_eq_true rfl⟩) hK hP hG hS (va_recv hK hP (ci := 7) (q0 := 0) rfl (oh_wg (Nat.lt_of_lt_of_le (by decide) hn) (sM_0 hT))) rfl hl.1 rfl (Nat.le_of_ble_eq_true rfl) dX7_statement_223 ⟨Nat.le_of_ble_eq_true rfl, Nat.le_of_ble_eq_true rfl⟩ (fun r_13 hq_14 => ?_)
          refine lv_if_eq (tgt := 245) hx hb dX7_statement_226 (by decide) (fun (c_15 : r_13 = 0) => ?_) (fun (c_15 : ¬ (r_13 = 0)) => ?_)
          · refine lv_aload_n hx hb dX7_statement_245 rfl (lv_at hl 0 rfl) ?_
            refine va_ldcS hx hb hown (hG.2.2.1 ("OneHeavyLoadModel", 217, "mile", 36) (List.mem_of_getElem? (i := 33) rfl)) dX7_statement_246 ?_
            refine lv_aload_n hx hb dX7_statement_248 rfl (lv_at hl 0 rfl) ?_
            refine va_get (D := D) (ci := 7) (v := .ref (a 13)) (C := RX7) (T := TX7) (N := 29) hx hb htg ig_7 hown hK hP 0 (oh_wg (Nat.lt_of_lt_of_le (by decide) hn) (sM_0 hT)) rfl 17 (by decide) (htg _ q_990) (fun _ h9 => h9) rfl dX7_statement_249 ?_
            refine lv_iconst (v := 1) hx hb dX7_statement_252 (by decide) ?_
            refine lv_iconst (v := 0) hx hb dX7_statement_253 (by decide) ?_
            refine lv_bipush (v := 99) hx hb dX7_statement_254 (by decide) ?_
            have : 0 ≤ (gi (C 0) 21).toInt ∧ (gi (C 0) 21).toInt ≤ 250 := fM_0_21 hT0
            have : 0 ≤ (gi (C 0) 7).toInt ∧ (gi (C 0) 7).toInt ≤ 250 := fM_0_7 hT0
            have : 0 ≤ (gi (C 0) 23).toInt ∧ (gi (C 0) 23).toInt ≤ 250 := fM_0_23 hT0
            have : 0 ≤ (gi (C 0) 13).toInt ∧ (gi (C 0) 13).toInt ≤ 5 := fM_0_13 hT0
            refine tm_V (As := [.ref (G (3 + 33)), .ref (a 13), .int 1, .int 0, .int 99]) (rest := []) ⟨hx, hb, hml, hown, htg⟩ (c_X7_told l D E G _ a C n hn hT 33 13 (1 : Int32) (0 : Int32) (99 : Int32) (by decide) ⟨(Nat.lt_of_lt_of_le (by decide) hn), (by decide), 3, fun C h => (sM_13 h), (rg_in (rg_c (v := 1) (lo := 1) (hi := 1) (by decide)) (by decide)), fun C v h h1 h2 => (h.up 13 (by decide) (tA_upd (tM_13 h) tA_any))⟩ (by omega)) (cwV 5 htg (oh_gV q_1234 q_1236 q_45 q_73 q_1237) rfl rfl rfl pdVX7_told ⟨Nat.le_of_ble_eq_true rfl, Nat.le_of_ble_eq_true rfl⟩) hK hP hD hG hS hA (va_recv hK hP (ci := 7) (q0 := 0) rfl (oh_wg (Nat.lt_of_lt_of_le (by decide) hn) (sM_0 hT))) rfl hl.1 rfl (Nat.le_of_ble_eq_true rfl) dX7_statement_256 ⟨Nat.le_of_ble_eq_true rfl, Nat.le_of_ble_eq_true rfl⟩ (fun r_16 C_17 H locs hq_18 hP hD hS => ?_)
            obtain ⟨hT, f_19, hq_18⟩ := hq_18
            have hF := fr_trk hF f_19 (by decide) (by decide)
            refine W.widen (k := 0) (n := 0) (Nat.le_refl _) (Nat.le_refl _) ?_
            have t_20 := hT
            have : (gi (C_17 0) 7).toInt = (gi (C 0) 7).toInt := congrArg (fun z => (vi z).toInt) (f_19.2 7 (by decide))
            have : (gi (C_17 0) 13).toInt = (gi (C 0) 13).toInt := congrArg (fun z => (vi z).toInt) (f_19.2 13 (by decide))
            have : 0 ≤ (gi (C_17 0) 21).toInt ∧ (gi (C_17 0) 21).toInt ≤ 250 := fM_0_21 t_20
            have : 0 ≤ (gi (C_17 0) 7).toInt ∧ (gi (C_17 0) 7).toInt ≤ 250 := fM_0_7 t_20
            have : 0 ≤ (gi (C_17 0) 23).toInt ∧ (gi (C_17 0) 23).toInt ≤ 250 := fM_0_23 t_20
            have : 0 ≤ (gi (C_17 0) 13).toInt ∧ (gi (C_17 0) 13).toInt ≤ 5 := fM_0_13 t_20
            rw [hQ]
            exact W.zret (v := r_16) (ty := .boolean) hx hb hr (oh_nb hq_18.1) (fun t ht hW => ⟨⟨r_16, C_17, rfl, ⟨hT, hF, ⟨hq_18.1, ⟨hq_18.2.1.1, hq_18.2.1.2⟩, (fun h9 => (hq_18.2.2.2.2 h9)), (RelW.fr hR (fr_trk (mc := [(13, 14)]) (mf := [21, 22, 23, 24, 25]) fr_rf f_19 (by decide) (by decide)) (by decide)), (by omega)⟩⟩, ⟨by rw [ht]; exact hP, hD⟩⟩, hS.F ht⟩) hS.2.2 dX7_statement_259
          · have u_21 := hq_14.2 c_15
            refine lv_aload_n hx hb dX7_statement_229 rfl (lv_at hl 0 rfl) ?_
            refine va_ldcS hx hb hown (hG.2.2.1 ("OneHeavyLoadModel", 215, "load", 35) (List.mem_of_getElem? (i := 32) rfl)) dX7_statement_230 ?_
            refine lv_aload_n hx hb dX7_statement_232 rfl (lv_at hl 0 rfl) ?_
            refine va_get (D := D) (ci := 7) (v := .ref (a 13)) (C := RX7) (T := TX7) (N := 29) hx hb htg ig_7 hown hK hP 0 (oh_wg (Nat.lt_of_lt_of_le (by decide) hn) (sM_0 hT)) rfl 17 (by decide) (htg _ q_990) (fun _ h9 => h9) rfl dX7_statement_233 ?_
            refine lv_iconst (v := 0) hx hb dX7_statement_236 (by decide) ?_
            refine lv_iconst (v := 0) hx hb dX7_statement_237 (by decide) ?_
            refine lv_sipush (v := 900) hx hb dX7_statement_238 (by decide) ?_
            have : 0 ≤ (gi (C 0) 21).toInt ∧ (gi (C 0) 21).toInt ≤ 250 := fM_0_21 hT0
            have : 0 ≤ (gi (C 0) 7).toInt ∧ (gi (C 0) 7).toInt ≤ 250 := fM_0_7 hT0
            have : 0 ≤ (gi (C 0) 23).toInt ∧ (gi (C 0) 23).toInt ≤ 250 := fM_0_23 hT0
            have : 0 ≤ (gi (C 0) 13).toInt ∧ (gi (C 0) 13).toInt ≤ 5 := fM_0_13 hT0
            refine tm_V (As := [.ref (G (3 + 32)), .ref (a 13), .int 0, .int 0, .int 900]) (rest := []) ⟨hx, hb, hml, hown, htg⟩ (c_X7_told l D E G _ a C n hn hT 32 13 (0 : Int32) (0 : Int32) (900 : Int32) (by decide) ⟨(Nat.lt_of_lt_of_le (by decide) hn), (by decide), 3, fun C h => (sM_13 h), (rg_in (rg_c (v := 0) (lo := 0) (hi := 0) (by decide)) (by decide)), fun C v h h1 h2 => (h.up 13 (by decide) (tA_upd (tM_13 h) tA_any))⟩ (by omega)) (cwV 5 htg (oh_gV q_1234 q_1236 q_45 q_73 q_1237) rfl rfl rfl pdVX7_told ⟨Nat.le_of_ble_eq_true rfl, Nat.le_of_ble_eq_true rfl⟩) hK hP hD hG hS hA (va_recv hK hP (ci := 7) (q0 := 0) rfl (oh_wg (Nat.lt_of_lt_of_le (by decide) hn) (sM_0 hT))) rfl hl.1 rfl (Nat.le_of_ble_eq_true rfl) dX7_statement_241 ⟨Nat.le_of_ble_eq_true rfl, Nat.le_of_ble_eq_true rfl⟩ (fun r_22 C_23 H locs hq_24 hP hD hS => ?_)
            obtain ⟨hT, f_25, hq_24⟩ := hq_24
            have hF := fr_trk hF f_25 (by decide) (by decide)
            refine W.widen (k := 0) (n := 0) (Nat.le_refl _) (Nat.le_refl _) ?_
            have t_26 := hT
            have : (gi (C_23 0) 7).toInt = (gi (C 0) 7).toInt := congrArg (fun z => (vi z).toInt) (f_25.2 7 (by decide))
            have : (gi (C_23 0) 13).toInt = (gi (C 0) 13).toInt := congrArg (fun z => (vi z).toInt) (f_25.2 13 (by decide))
            have : 0 ≤ (gi (C_23 0) 21).toInt ∧ (gi (C_23 0) 21).toInt ≤ 250 := fM_0_21 t_26
            have : 0 ≤ (gi (C_23 0) 7).toInt ∧ (gi (C_23 0) 7).toInt ≤ 250 := fM_0_7 t_26
            have : 0 ≤ (gi (C_23 0) 23).toInt ∧ (gi (C_23 0) 23).toInt ≤ 250 := fM_0_23 t_26
            have : 0 ≤ (gi (C_23 0) 13).toInt ∧ (gi (C_23 0) 13).toInt ≤ 5 := fM_0_13 t_26
            rw [hQ]
            exact W.zret (v := r_22) (ty := .boolean) hx hb hr (oh_nb hq_24.1) (fun t ht hW => ⟨⟨r_22, C_23, rfl, ⟨hT, hF, ⟨hq_24.1, ⟨hq_24.2.1.1, hq_24.2.1.2⟩, (fun h9 => (hq_24.2.2.2.2 h9)), (RelW.fr hR (fr_trk (mc := [(13, 14)]) (mf := [21, 22, 23, 24, 25]) fr_rf f_25 (by decide) (by decide)) (by decide)), (by omega)⟩⟩, ⟨by rw [ht]; exact hP, hD⟩⟩, hS.F ht⟩) hS.2.2 dX7_statement_244
        · have u_27 := hq_11.2 c_12
          refine lv_aload_n hx hb dX7_statement_156 rfl (lv_at hl 0 rfl) ?_
          refine va_get (D := D) (ci := 7) (v := .int (gi (C 0) 15)) (C := RX7) (T := TX7) (N := 29) hx hb htg ig_7 hown hK hP 0 (oh_wg (Nat.lt_of_lt_of_le (by decide) hn) (sM_0 hT)) rfl 15 (by decide) (htg _ q_988) (fun _ h9 => h9) rfl dX7_statement_157 ?_
          refine lv_iconst (v := 5) hx hb dX7_statement_160 (by decide) ?_
          refine lv_icmp_ge (tgt := 220) hx hb dX7_statement_161 (by decide) (fun (c_28 : (5 : Int32) ≤ (gi (C 0) 15)) => ?_) (fun (c_28 : ¬ ((5 : Int32) ≤ (gi (C 0) 15))) => ?_)
          · refine lv_aload_n hx hb dX7_statement_220 rfl (lv_at hl 0 rfl) ?_
            refine va_ldcS hx hb hown (hG.2.2.1 ("OneHeavyLoadModel", 215, "load", 35) (List.mem_of_getElem? (i := 32) rfl)) dX7_statement_221 ?_
            refine tq_V (As := [.ref (G (3 + 32))]) (rest := []) (ws := (oh_W n a C)) ⟨hx, hb, hml, hown, htg⟩ (c_X7_isWord l D E G a C n hn hT 32 (by decide)) (cwV 1 htg (oh_gV q_1215 q_1217 q_41 q_73 q_1218) rfl rfl rfl pdVX7_isWord ⟨Nat.le_of_ble_eq_true rfl, Nat.le_of_ble_eq_true rfl⟩) hK hP hG hS (va_recv hK hP (ci := 7) (q0 := 0) rfl (oh_wg (Nat.lt_of_lt_of_le (by decide) hn) (sM_0 hT))) rfl hl.1 rfl (Nat.le_of_ble_eq_true rfl) dX7_statement_223 ⟨Nat.le_of_ble_eq_true rfl, Nat.le_of_ble_eq_true rfl⟩ (fun r_29 hq_30 => ?_)
            refine lv_if_eq (tgt := 245) hx hb dX7_statement_226 (by decide) (fun (c_31 : r_29 = 0) => ?_) (fun (c_31 : ¬ (r_29 = 0)) => ?_)
            · refine lv_aload_n hx hb dX7_statement_245 rfl (lv_at hl 0 rfl) ?_
              refine va_ldcS hx hb hown (hG.2.2.1 ("OneHeavyLoadModel", 217, "mile", 36) (List.mem_of_getElem? (i := 33) rfl)) dX7_statement_246 ?_
              refine lv_aload_n hx hb dX7_statement_248 rfl (lv_at hl 0 rfl) ?_
              refine va_get (D := D) (ci := 7) (v := .ref (a 13)) (C := RX7) (T := TX7) (N := 29) hx hb htg ig_7 hown hK hP 0 (oh_wg (Nat.lt_of_lt_of_le (by decide) hn) (sM_0 hT)) rfl 17 (by decide) (htg _ q_990) (fun _ h9 => h9) rfl dX7_statement_249 ?_
              refine lv_iconst (v := 1) hx hb dX7_statement_252 (by decide) ?_
              refine lv_iconst (v := 0) hx hb dX7_statement_253 (by decide) ?_
              refine lv_bipush (v := 99) hx hb dX7_statement_254 (by decide) ?_
              have : 0 ≤ (gi (C 0) 21).toInt ∧ (gi (C 0) 21).toInt ≤ 250 := fM_0_21 hT0
              have : 0 ≤ (gi (C 0) 7).toInt ∧ (gi (C 0) 7).toInt ≤ 250 := fM_0_7 hT0
              have : 0 ≤ (gi (C 0) 23).toInt ∧ (gi (C 0) 23).toInt ≤ 250 := fM_0_23 hT0
              have : 0 ≤ (gi (C 0) 13).toInt ∧ (gi (C 0) 13).toInt ≤ 5 := fM_0_13 hT0
              have : (5 : Int32).toInt = 5 := rfl
              have : (5 : Int32).toInt ≤ (gi (C 0) 15).toInt := Int32.le_iff_toInt_le.mp c_28
              refine tm_V (As := [.ref (G (3 + 33)), .ref (a 13), .int 1, .int 0, .int 99]) (rest := []) ⟨hx, hb, hml, hown, htg⟩ (c_X7_told l D E G _ a C n hn hT 33 13 (1 : Int32) (0 : Int32) (99 : Int32) (by decide) ⟨(Nat.lt_of_lt_of_le (by decide) hn), (by decide), 3, fun C h => (sM_13 h), (rg_in (rg_c (v := 1) (lo := 1) (hi := 1) (by decide)) (by decide)), fun C v h h1 h2 => (h.up 13 (by decide) (tA_upd (tM_13 h) tA_any))⟩ (by omega)) (cwV 5 htg (oh_gV q_1234 q_1236 q_45 q_73 q_1237) rfl rfl rfl pdVX7_told ⟨Nat.le_of_ble_eq_true rfl, Nat.le_of_ble_eq_true rfl⟩) hK hP hD hG hS hA (va_recv hK hP (ci := 7) (q0 := 0) rfl (oh_wg (Nat.lt_of_lt_of_le (by decide) hn) (sM_0 hT))) rfl hl.1 rfl (Nat.le_of_ble_eq_true rfl) dX7_statement_256 ⟨Nat.le_of_ble_eq_true rfl, Nat.le_of_ble_eq_true rfl⟩ (fun r_32 C_33 H locs hq_34 hP hD hS => ?_)
              obtain ⟨hT, f_35, hq_34⟩ := hq_34
              have hF := fr_trk hF f_35 (by decide) (by decide)
              refine W.widen (k := 0) (n := 0) (Nat.le_refl _) (Nat.le_refl _) ?_
              have t_36 := hT
              have : (gi (C_33 0) 7).toInt = (gi (C 0) 7).toInt := congrArg (fun z => (vi z).toInt) (f_35.2 7 (by decide))
              have : (gi (C_33 0) 13).toInt = (gi (C 0) 13).toInt := congrArg (fun z => (vi z).toInt) (f_35.2 13 (by decide))
              have : 0 ≤ (gi (C_33 0) 21).toInt ∧ (gi (C_33 0) 21).toInt ≤ 250 := fM_0_21 t_36
              have : 0 ≤ (gi (C_33 0) 7).toInt ∧ (gi (C_33 0) 7).toInt ≤ 250 := fM_0_7 t_36
              have : 0 ≤ (gi (C_33 0) 23).toInt ∧ (gi (C_33 0) 23).toInt ≤ 250 := fM_0_23 t_36
              have : 0 ≤ (gi (C_33 0) 13).toInt ∧ (gi (C_33 0) 13).toInt ≤ 5 := fM_0_13 t_36
              rw [hQ]
              exact W.zret (v := r_32) (ty := .boolean) hx hb hr (oh_nb hq_34.1) (fun t ht hW => ⟨⟨r_32, C_33, rfl, ⟨hT, hF, ⟨hq_34.1, ⟨hq_34.2.1.1, hq_34.2.1.2⟩, (fun h9 => (hq_34.2.2.2.2 h9)), (RelW.fr hR (fr_trk (mc := [(13, 14)]) (mf := [21, 22, 23, 24, 25]) fr_rf f_35 (by decide) (by decide)) (by decide)), (by omega)⟩⟩, ⟨by rw [ht]; exact hP, hD⟩⟩, hS.F ht⟩) hS.2.2 dX7_statement_259
            · have u_37 := hq_30.2 c_31
              refine lv_aload_n hx hb dX7_statement_229 rfl (lv_at hl 0 rfl) ?_
              refine va_ldcS hx hb hown (hG.2.2.1 ("OneHeavyLoadModel", 215, "load", 35) (List.mem_of_getElem? (i := 32) rfl)) dX7_statement_230 ?_
              refine lv_aload_n hx hb dX7_statement_232 rfl (lv_at hl 0 rfl) ?_
              refine va_get (D := D) (ci := 7) (v := .ref (a 13)) (C := RX7) (T := TX7) (N := 29) hx hb htg ig_7 hown hK hP 0 (oh_wg (Nat.lt_of_lt_of_le (by decide) hn) (sM_0 hT)) rfl 17 (by decide) (htg _ q_990) (fun _ h9 => h9) rfl dX7_statement_233 ?_
              refine lv_iconst (v := 0) hx hb dX7_statement_236 (by decide) ?_
              refine lv_iconst (v := 0) hx hb dX7_statement_237 (by decide) ?_
              refine lv_sipush (v := 900) hx hb dX7_statement_238 (by decide) ?_
              have : 0 ≤ (gi (C 0) 21).toInt ∧ (gi (C 0) 21).toInt ≤ 250 := fM_0_21 hT0
              have : 0 ≤ (gi (C 0) 7).toInt ∧ (gi (C 0) 7).toInt ≤ 250 := fM_0_7 hT0
              have : 0 ≤ (gi (C 0) 23).toInt ∧ (gi (C 0) 23).toInt ≤ 250 := fM_0_23 hT0
              have : 0 ≤ (gi (C 0) 13).toInt ∧ (gi (C 0) 13).toInt ≤ 5 := fM_0_13 hT0
              have : (5 : Int32).toInt = 5 := rfl
              have : (5 : Int32).toInt ≤ (gi (C 0) 15).toInt := Int32.le_iff_toInt_le.mp c_28
              refine tm_V (As := [.ref (G (3 + 32)), .ref (a 13), .int 0, .int 0, .int 900]) (rest := []) ⟨hx, hb, hml, hown, htg⟩ (c_X7_told l D E G _ a C n hn hT 32 13 (0 : Int32) (0 : Int32) (900 : Int32) (by decide) ⟨(Nat.lt_of_lt_of_le (by decide) hn), (by decide), 3, fun C h => (sM_13 h), (rg_in (rg_c (v := 0) (lo := 0) (hi := 0) (by decide)) (by decide)), fun C v h h1 h2 => (h.up 13 (by decide) (tA_upd (tM_13 h) tA_any))⟩ (by omega)) (cwV 5 htg (oh_gV q_1234 q_1236 q_45 q_73 q_1237) rfl rfl rfl pdVX7_told ⟨Nat.le_of_ble_eq_true rfl, Nat.le_of_ble_eq_true rfl⟩) hK hP hD hG hS hA (va_recv hK hP (ci := 7) (q0 := 0) rfl (oh_wg (Nat.lt_of_lt_of_le (by decide) hn) (sM_0 hT))) rfl hl.1 rfl (Nat.le_of_ble_eq_true rfl) dX7_statement_241 ⟨Nat.le_of_ble_eq_true rfl, Nat.le_of_ble_eq_true rfl⟩ (fun r_38 C_39 H locs hq_40 hP hD hS => ?_)
              obtain ⟨hT, f_41, hq_40⟩ := hq_40
              have hF := fr_trk hF f_41 (by decide) (by decide)
              refine W.widen (k := 0) (n := 0) (Nat.le_refl _) (Nat.le_refl _) ?_
              have t_42 := hT
              have : (gi (C_39 0) 7).toInt = (gi (C 0) 7).toInt := congrArg (fun z => (vi z).toInt) (f_41.2 7 (by decide))
              have : (gi (C_39 0) 13).toInt = (gi (C 0) 13).toInt := congrArg (fun z => (vi z).toInt) (f_41.2 13 (by decide))
              have : 0 ≤ (gi (C_39 0) 21).toInt ∧ (gi (C_39 0) 21).toInt ≤ 250 := fM_0_21 t_42
              have : 0 ≤ (gi (C_39 0) 7).toInt ∧ (gi (C_39 0) 7).toInt ≤ 250 := fM_0_7 t_42
              have : 0 ≤ (gi (C_39 0) 23).toInt ∧ (gi (C_39 0) 23).toInt ≤ 250 := fM_0_23 t_42
              have : 0 ≤ (gi (C_39 0) 13).toInt ∧ (gi (C_39 0) 13).toInt ≤ 5 := fM_0_13 t_42
              rw [hQ]
              exact W.zret (v := r_38) (ty := .boolean) hx hb hr (oh_nb hq_40.1) (fun t ht hW => ⟨⟨r_38, C_39, rfl, ⟨hT, hF, ⟨hq_40.1, ⟨hq_40.2.1.1, hq_40.2.1.2⟩, (fun h9 => (hq_40.2.2.2.2 h9)), (RelW.fr hR (fr_trk (mc := [(13, 14)]) (mf := [21, 22, 23, 24, 25]) fr_rf f_41 (by decide) (by decide)) (by decide)), (by omega)⟩⟩, ⟨by rw [ht]; exact hP, hD⟩⟩, hS.F ht⟩) hS.2.2 dX7_statement_244
          · refine lv_aload_n hx hb dX7_statement_164 rfl (lv_at hl 0 rfl) ?_
            refine va_ldcS hx hb hown (hG.2.2.1 ("OneHeavyLoadModel", 214, "part", 34) (List.mem_of_getElem? (i := 31) rfl)) dX7_statement_165 ?_
            refine lv_aload_n hx hb dX7_statement_167 rfl (lv_at hl 0 rfl) ?_
            refine va_get (D := D) (ci := 7) (v := .ref (a 12)) (C := RX7) (T := TX7) (N := 29) hx hb htg ig_7 hown hK hP 0 (oh_wg (Nat.lt_of_lt_of_le (by decide) hn) (sM_0 hT)) rfl 16 (by decide) (htg _ q_989) (fun _ h9 => h9) rfl dX7_statement_168 ?_
            refine lv_aload_n hx hb dX7_statement_171 rfl (lv_at hl 0 rfl) ?_
            refine va_get (D := D) (ci := 7) (v := .int (gi (C 0) 15)) (C := RX7) (T := TX7) (N := 29) hx hb htg ig_7 hown hK hP 0 (oh_wg (Nat.lt_of_lt_of_le (by decide) hn) (sM_0 hT)) rfl 15 (by decide) (htg _ q_988) (fun _ h9 => h9) rfl dX7_statement_172 ?_
            have n_43 : vp_in (gi (C 0) 15) 5 := (rg_in (rn_ltu (u' := 4) (Int32.not_le.mp c_28) (fM_0_15 hT0) (rg_c (v := 5) (lo := 5) (hi := 5) (by decide)) (by decide)) (by decide))
            have b_44 : (gi (C 0) 15).toNatClampNeg < 5 := vp_lt n_43
            refine th_aald hx hb hK hP 12 2 (Nat.lt_of_lt_of_le (by decide) hn) (sM_12 hT) rfl n_43 dX7_statement_175 ?_
            refine lv_iconst (v := 0) hx hb dX7_statement_176 (by decide) ?_
            refine lv_iconst (v := 1) hx hb dX7_statement_177 (by decide) ?_
            refine lv_bipush (v := 99) hx hb dX7_statement_178 (by decide) ?_
            have : 0 ≤ (gi (C 0) 21).toInt ∧ (gi (C 0) 21).toInt ≤ 250 := fM_0_21 hT0
            have : 0 ≤ (gi (C 0) 7).toInt ∧ (gi (C 0) 7).toInt ≤ 250 := fM_0_7 hT0
            have : 0 ≤ (gi (C 0) 23).toInt ∧ (gi (C 0) 23).toInt ≤ 250 := fM_0_23 hT0
            have : 0 ≤ (gi (C 0) 13).toInt ∧ (gi (C 0) 13).toInt ≤ 5 := fM_0_13 hT0
            have : (5 : Int32).toInt = 5 := rfl
            have : (gi (C 0) 15).toInt < (5 : Int32).toInt := Int32.lt_iff_toInt_lt.mp (Int32.not_le.mp c_28)
            refine tm_V (As := [.ref (G (3 + 31)), .ref (a (69 + (gi (C 0) 15).toNatClampNeg)), .int 0, .int 1, .int 99]) (rest := []) ⟨hx, hb, hml, hown, htg⟩ (c_X7_told l D E G _ a C n hn hT 31 (69 + (gi (C 0) 15).toNatClampNeg) (0 : Int32) (1 : Int32) (99 : Int32) (by decide) ⟨(lt_blk b_44 hn (by decide)), (by omega), 2, fun C h => (h.bpart b_44).1, (rg_in (rg_c (v := 0) (lo := 0) (hi := 0) (by decide)) (by decide)), fun C v h h1 h2 => (h.uppart b_44 (tA_upd (h.bpart b_44) tA_any))⟩ (by omega)) (cwV 5 htg (oh_gV q_1234 q_1236 q_45 q_73 q_1237) rfl rfl rfl pdVX7_told ⟨Nat.le_of_ble_eq_true rfl, Nat.le_of_ble_eq_true rfl⟩) hK hP hD hG hS hA (va_recv hK hP (ci := 7) (q0 := 0) rfl (oh_wg (Nat.lt_of_lt_of_le (by decide) hn) (sM_0 hT))) rfl hl.1 rfl (Nat.le_of_ble_eq_true rfl) dX7_statement_180 ⟨Nat.le_of_ble_eq_true rfl, Nat.le_of_ble_eq_true rfl⟩ (fun r_45 C_46 H locs hq_47 hP hD hS => ?_)
            obtain ⟨hT, f_48, hq_47⟩ := hq_47
            have hF := fr_trk hF f_48 (inR_of (p := (69, 74)) (by decide) (by show 69 ≤ _; omega) (by show _ < 74; omega)) (by decide)
            refine W.widen (k := 0) (n := 0) (Nat.le_refl _) (Nat.le_refl _) ?_
            have t_49 := hT
            refine lv_if_eq (tgt := 206) hx hb dX7_statement_183 (by decide) (fun (c_50 : r_45 = 0) => ?_) (fun (c_50 : ¬ (r_45 = 0)) => ?_)
            · refine lv_iconst (v := 0) hx hb dX7_statement_206 (by decide) ?_
              have : (gi (C_46 0) 7).toInt = (gi (C 0) 7).toInt := congrArg (fun z => (vi z).toInt) (f_48.2 7 (by decide))
              have : (gi (C_46 0) 13).toInt = (gi (C 0) 13).toInt := congrArg (fun z => (vi z).toInt) (f_48.2 13 (by decide))
              have : 0 ≤ (gi (C_46 0) 21).toInt ∧ (gi (C_46 0) 21).toInt ≤ 250 := fM_0_21 t_49
              have : 0 ≤ (gi (C_46 0) 7).toInt ∧ (gi (C_46 0) 7).toInt ≤ 250 := fM_0_7 t_49
              have : 0 ≤ (gi (C_46 0) 23).toInt ∧ (gi (C_46 0) 23).toInt ≤ 250 := fM_0_23 t_49
              have : 0 ≤ (gi (C_46 0) 13).toInt ∧ (gi (C_46 0) 13).toInt ≤ 5 := fM_0_13 t_49
              rw [hQ]
              exact W.zret (v := 0) (ty := .boolean) hx hb hr (by decide) (fun t ht hW => ⟨⟨0, C_46, rfl, ⟨hT, hF, ⟨(Or.inl rfl), ⟨hq_47.2.1.1, hq_47.2.1.2⟩, (fun h9 => absurd rfl h9), (RelW.fr hR (fr_trk (mc := [(69, 74)]) (mf := [21, 22, 23, 24, 25]) fr_rf f_48 (inR_of (p := (69, 74)) (by decide) (by show 69 ≤ _; omega) (by show _ < 74; omega)) (by decide)) (by decide)), (by omega)⟩⟩, ⟨by rw [ht]; exact hP, hD⟩⟩, hS.F ht⟩) hS.2.2 dX7_statement_207
            · have u_51 := hq_47.2.2.2.1 c_50
              have u_52 := hq_47.2.2.2.2 c_50
              refine lv_aload_n hx hb dX7_statement_186 rfl (lv_at hl 0 rfl) ?_
              refine lv_aload_n hx hb dX7_statement_187 rfl (lv_at hl 0 rfl) ?_
              refine va_get (D := D) (ci := 7) (v := .ref (a 12)) (C := RX7) (T := TX7) (N := 29) hx hb htg ig_7 hown hK hP 0 (oh_wg (Nat.lt_of_lt_of_le (by decide) hn) (sM_0 hT)) rfl 16 (by decide) (htg _ q_989) (fun _ h9 => h9) rfl dX7_statement_188 ?_
              refine lv_aload_n hx hb dX7_statement_191 rfl (lv_at hl 0 rfl) ?_
              refine va_get (D := D) (ci := 7) (v := .int (gi (C 0) 15)) (C := RX7) (T := TX7) (N := 29) hx hb htg ig_7 hown hK hP 0 (oh_wg (Nat.lt_of_lt_of_le (by decide) hn) (sM_0 hT)) rfl 15 (by decide) (htg _ q_988) (fun _ h9 => h9) (oh_fv (c := C_46 0) (j := 15) rfl (congrArg vi (f_48.2 15 (by decide)))) dX7_statement_192 ?_
              have n_53 : vp_in (gi (C 0) 15) 5 := (rg_in (rn_ltu (u' := 4) (Int32.not_le.mp c_28) (fM_0_15 hT0) (rg_c (v := 5) (lo := 5) (hi := 5) (by decide)) (by decide)) (by decide))
              have b_54 : (gi (C 0) 15).toNatClampNeg < 5 := vp_lt n_53
              refine th_aald hx hb hK hP 12 2 (Nat.lt_of_lt_of_le (by decide) hn) (sM_12 hT) rfl n_53 dX7_statement_195 ?_
              refine lv_iconst (v := 1) hx hb dX7_statement_196 (by decide) ?_
              refine lv_iconst (v := 0) hx hb dX7_statement_197 (by decide) ?_
              refine lv_bipush (v := 99) hx hb dX7_statement_198 (by decide) ?_
              have : (gi (C_46 0) 7).toInt = (gi (C 0) 7).toInt := congrArg (fun z => (vi z).toInt) (f_48.2 7 (by decide))
              have : (gi (C_46 0) 13).toInt = (gi (C 0) 13).toInt := congrArg (fun z => (vi z).toInt) (f_48.2 13 (by decide))
              have : 0 ≤ (gi (C_46 0) 21).toInt ∧ (gi (C_46 0) 21).toInt ≤ 250 := fM_0_21 t_49
              have : 0 ≤ (gi (C_46 0) 7).toInt ∧ (gi (C_46 0) 7).toInt ≤ 250 := fM_0_7 t_49
              have : 0 ≤ (gi (C_46 0) 23).toInt ∧ (gi (C_46 0) 23).toInt ≤ 250 := fM_0_23 t_49
              have : 0 ≤ (gi (C_46 0) 13).toInt ∧ (gi (C_46 0) 13).toInt ≤ 5 := fM_0_13 t_49
              refine tm_V (As := [.ref (a (69 + (gi (C 0) 15).toNatClampNeg)), .int 1, .int 0, .int 99]) (rest := []) ⟨hx, hb, hml, hown, htg⟩ (c_X7_number l D E G _ a C_46 n hn hT (69 + (gi (C 0) 15).toNatClampNeg) (1 : Int32) (0 : Int32) (99 : Int32) ⟨(lt_blk b_54 hn (by decide)), (by omega), 2, fun C h => (h.bpart b_54).1, (rg_in (rg_c (v := 1) (lo := 1) (hi := 1) (by decide)) (by decide)), fun C v h h1 h2 => (h.uppart b_54 (tA_upd (h.bpart b_54) tA_any))⟩ (by omega)) (cwV 4 htg (oh_gV q_1225 q_1227 q_43 q_73 q_1228) rfl rfl rfl pdVX7_number ⟨Nat.le_of_ble_eq_true rfl, Nat.le_of_ble_eq_true rfl⟩) hK hP hD hG hS hA (va_recv hK hP (ci := 7) (q0 := 0) rfl (oh_wg (Nat.lt_of_lt_of_le (by decide) hn) (sM_0 hT))) rfl hl.1 rfl (Nat.le_of_ble_eq_true rfl) dX7_statement_200 ⟨Nat.le_of_ble_eq_true rfl, Nat.le_of_ble_eq_true rfl⟩ (fun r_55 C_56 H locs hq_57 hP hD hS => ?_)
              obtain ⟨hT, f_58, hq_57⟩ := hq_57
              have hF := fr_trk hF f_58 (inR_of (p := (69, 74)) (by decide) (by show 69 ≤ _; omega) (by show _ < 74; omega)) (by decide)
              refine W.widen (k := 0) (n := 0) (Nat.le_refl _) (Nat.le_refl _) ?_
              have t_59 := hT
              refine lv_if_ne (tgt := 208) hx hb dX7_statement_203 (by decide) (fun (c_60 : ¬ (r_55 = 0)) => ?_) (fun (c_60 : r_55 = 0) => ?_)
              · have u_61 := hq_57.2.2.2 c_60
                refine lv_aload_n hx hb dX7_statement_208 rfl (lv_at hl 0 rfl) ?_
                refine lv_dup hx hb dX7_statement_209 rfl ?_
                refine va_get (D := D) (ci := 7) (v := .int (gi (C 0) 15)) (C := RX7) (T := TX7) (N := 29) hx hb htg ig_7 hown hK hP 0 (oh_wg (Nat.lt_of_lt_of_le (by decide) hn) (sM_0 hT)) rfl 15 (by decide) (htg _ q_988) (fun _ h9 => h9) (oh_fv (c := C_56 0) (j := 15) rfl (Eq.trans (congrArg vi (f_58.2 15 (by decide))) (congrArg vi (f_48.2 15 (by decide))))) dX7_statement_210 ?_
                refine lv_iconst (v := 1) hx hb dX7_statement_213 (by decide) ?_
                refine lv_iadd hx hb dX7_statement_214 ?_
                refine th_put (Tp := TyM a E) (Rl := fr [(13, 14), (24, 48), (48, 64), (64, 69), (69, 74)] [9, 11, 13, 15, 21, 22, 23, 24, 25] C) (ci := 7) (v := .int ((gi (C 0) 15) + 1)) (ty := .int) (CC := RX7) (T := TX7) (N := 29) hx hb htg ig_7 tyX7 tyX7_ok nmX7 hown hK hP hD hS 0 (Nat.lt_of_lt_of_le (by decide) hn) (sM_0 hT) rfl 15 (by decide) (htg _ q_988) (fun _ h9 => h9) rfl (by decide +kernel) rfl rfl (Nat.le_of_ble_eq_true rfl) (hT.up 0 (by decide) ⟨rfl, (fM_0_7 hT), (fM_0_9 hT), (fM_0_11 hT), (fM_0_13 hT), (rg_w (rg_add (lo := 1) (hi := 5) (rn_ltu (u' := 4) (Int32.not_le.mp c_28) (fM_0_15 hT0) (rg_c (v := 5) (lo := 5) (hi := 5) (by decide)) (by decide)) (rg_c (v := 1) (lo := 1) (hi := 1) (by decide)) (by decide)) (by decide)), (fM_0_21 hT), (fM_0_23 hT)⟩) (fr_fd hF (sM_0 hT) (by decide)) dX7_statement_215 (fun C_62 H locs e_63 hT hF hP hD hS => ?_)
                have t_64 := hT
                refine lv_iconst (v := 1) hx hb dX7_statement_218 (by decide) ?_
                have : (gi (C_56 0) 7).toInt = (gi (C_46 0) 7).toInt := congrArg (fun z => (vi z).toInt) (f_58.2 7 (by decide))
                have : (gi (C_56 0) 13).toInt = (gi (C_46 0) 13).toInt := congrArg (fun z => (vi z).toInt) (f_58.2 13 (by decide))
                have : (gi (C_62 0) 21).toInt = (gi (C_56 0) 21).toInt := congrArg Int32.toInt (show gi (C_62 0) 21 = gi (C_56 0) 21 by rw [e_63]; rfl)
                have : (gi (C_62 0) 7).toInt = (gi (C_56 0) 7).toInt := congrArg Int32.toInt (show gi (C_62 0) 7 = gi (C_56 0) 7 by rw [e_63]; rfl)
                have : (gi (C_62 0) 23).toInt = (gi (C_56 0) 23).toInt := congrArg Int32.toInt (show gi (C_62 0) 23 = gi (C_56 0) 23 by rw [e_63]; rfl)
                have : (gi (C_62 0) 13).toInt = (gi (C_56 0) 13).toInt := congrArg Int32.toInt (show gi (C_62 0) 13 = gi (C_56 0) 13 by rw [e_63]; rfl)
                have : 0 ≤ (gi (C_56 0) 21).toInt ∧ (gi (C_56 0) 21).toInt ≤ 250 := fM_0_21 t_59
                have : 0 ≤ (gi (C_56 0) 7).toInt ∧ (gi (C_56 0) 7).toInt ≤ 250 := fM_0_7 t_59
                have : 0 ≤ (gi (C_56 0) 23).toInt ∧ (gi (C_56 0) 23).toInt ≤ 250 := fM_0_23 t_59
                have : 0 ≤ (gi (C_56 0) 13).toInt ∧ (gi (C_56 0) 13).toInt ≤ 5 := fM_0_13 t_59
                have : 0 ≤ (gi (C_62 0) 21).toInt ∧ (gi (C_62 0) 21).toInt ≤ 250 := fM_0_21 t_64
                have : 0 ≤ (gi (C_62 0) 7).toInt ∧ (gi (C_62 0) 7).toInt ≤ 250 := fM_0_7 t_64
                have : 0 ≤ (gi (C_62 0) 23).toInt ∧ (gi (C_62 0) 23).toInt ≤ 250 := fM_0_23 t_64
                have : 0 ≤ (gi (C_62 0) 13).toInt ∧ (gi (C_62 0) 13).toInt ≤ 5 := fM_0_13 t_64
                rw [hQ]
                exact W.zret (v := 1) (ty := .boolean) hx hb hr (by decide) (fun t ht hW => ⟨⟨1, C_62, rfl, ⟨hT, hF, ⟨(Or.inr rfl), ⟨(by omega), (by omega)⟩, (fun _ => (by omega)), (RelW.fr (RelW.fr (RelW.fr hR (fr_trk (mc := [(69, 74)]) (mf := [21, 22, 23, 24, 25]) fr_rf f_48 (inR_of (p := (69, 74)) (by decide) (by show 69 ≤ _; omega) (by show _ < 74; omega)) (by decide)) (by decide)) (fr_trk (mc := [(69, 74)]) (mf := [21, 22, 23, 24, 25]) fr_rf f_58 (inR_of (p := (69, 74)) (by decide) (by show 69 ≤ _; omega) (by show _ < 74; omega)) (by decide)) (by decide)) (fr_fde (mc := []) (mf := [15]) fr_rf e_63 (sM_0 t_59) (by decide)) (by decide)), (by omega)⟩⟩, ⟨by rw [ht]; exact hP, hD⟩⟩, hS.F ht⟩) hS.2.2 dX7_statement_219
              · refine lv_iconst (v := 0) hx hb dX7_statement_206 (by decide) ?_
                have : (gi (C_56 0) 7).toInt = (gi (C_46 0) 7).toInt := congrArg (fun z => (vi z).toInt) (f_58.2 7 (by decide))
                have : (gi (C_56 0) 13).toInt = (gi (C_46 0) 13).toInt := congrArg (fun z => (vi z).toInt) (f_58.2 13 (by decide))
                have : 0 ≤ (gi (C_56 0) 21).toInt ∧ (gi (C_56 0) 21).toInt ≤ 250 := fM_0_21 t_59
                have : 0 ≤ (gi (C_56 0) 7).toInt ∧ (gi (C_56 0) 7).toInt ≤ 250 := fM_0_7 t_59
                have : 0 ≤ (gi (C_56 0) 23).toInt ∧ (gi (C_56 0) 23).toInt ≤ 250 := fM_0_23 t_59
                have : 0 ≤ (gi (C_56 0) 13).toInt ∧ (gi (C_56 0) 13).toInt ≤ 5 := fM_0_13 t_59
                rw [hQ]
                exact W.zret (v := 0) (ty := .boolean) hx hb hr (by decide) (fun t ht hW => ⟨⟨0, C_56, rfl, ⟨hT, hF, ⟨(Or.inl rfl), ⟨(by omega), hq_57.2.1.2⟩, (fun h9 => absurd rfl h9), (RelW.fr (RelW.fr hR (fr_trk (mc := [(69, 74)]) (mf := [21, 22, 23, 24, 25]) fr_rf f_48 (inR_of (p := (69, 74)) (by decide) (by show 69 ≤ _; omega) (by show _ < 74; omega)) (by decide)) (by decide)) (fr_trk (mc := [(69, 74)]) (mf := [21, 22, 23, 24, 25]) fr_rf f_58 (inR_of (p := (69, 74)) (by decide) (by show 69 ≤ _; omega) (by show _ < 74; omega)) (by decide)) (by decide)), (by omega)⟩⟩, ⟨by rw [ht]; exact hP, hD⟩⟩, hS.F ht⟩) hS.2.2 dX7_statement_207
      · have u_65 := hq_8.2 c_9
        refine lv_aload_n hx hb dX7_statement_73 rfl (lv_at hl 0 rfl) ?_
        refine va_get (D := D) (ci := 7) (v := .int (gi (C 0) 13)) (C := RX7) (T := TX7) (N := 29) hx hb htg ig_7 hown hK hP 0 (oh_wg (Nat.lt_of_lt_of_le (by decide) hn) (sM_0 hT)) rfl 13 (by decide) (htg _ q_986) (fun _ h9 => h9) rfl dX7_statement_74 ?_
        refine lv_iconst (v := 5) hx hb dX7_statement_77 (by decide) ?_
        refine lv_icmp_ge (tgt := 147) hx hb dX7_statement_78 (by decide) (fun (c_66 : (5 : Int32) ≤ (gi (C 0) 13)) => ?_) (fun (c_66 : ¬ ((5 : Int32) ≤ (gi (C 0) 13))) => ?_)
        · refine lv_aload_n hx hb dX7_statement_147 rfl (lv_at hl 0 rfl) ?_
          refine va_ldcS hx hb hown (hG.2.2.1 ("OneHeavyLoadModel", 214, "part", 34) (List.mem_of_getElem? (i := 31) rfl)) dX7_statement_148 ?_
          refine tq_V (As := [.ref (G (3 + 31))]) (rest := []) (ws := (oh_W n a C)) ⟨hx, hb, hml, hown, htg⟩ (c_X7_isWord l D E G a C n hn hT 31 (by decide)) (cwV 1 htg (oh_gV q_1215 q_1217 q_41 q_73 q_1218) rfl rfl rfl pdVX7_isWord ⟨Nat.le_of_ble_eq_true rfl, Nat.le_of_ble_eq_true rfl⟩) hK hP hG hS (va_recv hK hP (ci := 7) (q0 := 0) rfl (oh_wg (Nat.lt_of_lt_of_le (by decide) hn) (sM_0 hT))) rfl hl.1 rfl (Nat.le_of_ble_eq_true rfl) dX7_statement_150 ⟨Nat.le_of_ble_eq_true rfl, Nat.le_of_ble_eq_true rfl⟩ (fun r_67 hq_68 => ?_)
          refine lv_if_eq (tgt := 220) hx hb dX7_statement_153 (by decide) (fun (c_69 : r_67 = 0) => ?_) (fun (c_69 : ¬ (r_67 = 0)) => ?_)
          · refine lv_aload_n hx hb dX7_statement_220 rfl (lv_at hl 0 rfl) ?_
            refine va_ldcS hx hb hown (hG.2.2.1 ("OneHeavyLoadModel", 215, "load", 35) (List.mem_of_getElem? (i := 32) rfl)) dX7_statement_221 ?_
            refine tq_V (As := [.ref (G (3 + 32))]) (rest := []) (ws := (oh_W n a C)) ⟨hx, hb, hml, hown, htg⟩ (c_X7_isWord l D E G a C n hn hT 32 (by decide)) (cwV 1 htg (oh_gV q_1215 q_1217 q_41 q_73 q_1218) rfl rfl rfl pdVX7_isWord ⟨Nat.le_of_ble_eq_true rfl, Nat.le_of_ble_eq_true rfl⟩) hK hP hG hS (va_recv hK hP (ci := 7) (q0 := 0) rfl (oh_wg (Nat.lt_of_lt_of_le (by decide) hn) (sM_0 hT))) rfl hl.1 rfl (Nat.le_of_ble_eq_true rfl) dX7_statement_223 ⟨Nat.le_of_ble_eq_true rfl, Nat.le_of_ble_eq_true rfl⟩ (fun r_70 hq_71 => ?_)
            refine lv_if_eq (tgt := 245) hx hb dX7_statement_226 (by decide) (fun (c_72 : r_70 = 0) => ?_) (fun (c_72 : ¬ (r_70 = 0)) => ?_)
            · refine lv_aload_n hx hb dX7_statement_245 rfl (lv_at hl 0 rfl) ?_
              refine va_ldcS hx hb hown (hG.2.2.1 ("OneHeavyLoadModel", 217, "mile", 36) (List.mem_of_getElem? (i := 33) rfl)) dX7_statement_246 ?_
              refine lv_aload_n hx hb dX7_statement_248 rfl (lv_at hl 0 rfl) ?_
              refine va_get (D := D) (ci := 7) (v := .ref (a 13)) (C := RX7) (T := TX7) (N := 29) hx hb htg ig_7 hown hK hP 0 (oh_wg (Nat.lt_of_lt_of_le (by decide) hn) (sM_0 hT)) rfl 17 (by decide) (htg _ q_990) (fun _ h9 => h9) rfl dX7_statement_249 ?_
              refine lv_iconst (v := 1) hx hb dX7_statement_252 (by decide) ?_
              refine lv_iconst (v := 0) hx hb dX7_statement_253 (by decide) ?_
              refine lv_bipush (v := 99) hx hb dX7_statement_254 (by decide) ?_
              have : 0 ≤ (gi (C 0) 21).toInt ∧ (gi (C 0) 21).toInt ≤ 250 := fM_0_21 hT0
              have : 0 ≤ (gi (C 0) 7).toInt ∧ (gi (C 0) 7).toInt ≤ 250 := fM_0_7 hT0
              have : 0 ≤ (gi (C 0) 23).toInt ∧ (gi (C 0) 23).toInt ≤ 250 := fM_0_23 hT0
              have : 0 ≤ (gi (C 0) 13).toInt ∧ (gi (C 0) 13).toInt ≤ 5 := fM_0_13 hT0
              have : (5 : Int32).toInt = 5 := rfl
              have : (5 : Int32).toInt ≤ (gi (C 0) 13).toInt := Int32.le_iff_toInt_le.mp c_66
              refine tm_V (As := [.ref (G (3 + 33)), .ref (a 13), .int 1, .int 0, .int 99]) (rest := []) ⟨hx, hb, hml, hown, htg⟩ (c_X7_told l D E G _ a C n hn hT 33 13 (1 : Int32) (0 : Int32) (99 : Int32) (by decide) ⟨(Nat.lt_of_lt_of_le (by decide) hn), (by decide), 3, fun C h => (sM_13 h), (rg_in (rg_c (v := 1) (lo := 1) (hi := 1) (by decide)) (by decide)), fun C v h h1 h2 => (h.up 13 (by decide) (tA_upd (tM_13 h) tA_any))⟩ (by omega)) (cwV 5 htg (oh_gV q_1234 q_1236 q_45 q_73 q_1237) rfl rfl rfl pdVX7_told ⟨Nat.le_of_ble_eq_true rfl, Nat.le_of_ble_eq_true rfl⟩) hK hP hD hG hS hA (va_recv hK hP (ci := 7) (q0 := 0) rfl (oh_wg (Nat.lt_of_lt_of_le (by decide) hn) (sM_0 hT))) rfl hl.1 rfl (Nat.le_of_ble_eq_true rfl) dX7_statement_256 ⟨Nat.le_of_ble_eq_true rfl, Nat.le_of_ble_eq_true rfl⟩ (fun r_73 C_74 H locs hq_75 hP hD hS => ?_)
              obtain ⟨hT, f_76, hq_75⟩ := hq_75
              have hF := fr_trk hF f_76 (by decide) (by decide)
              refine W.widen (k := 0) (n := 0) (Nat.le_refl _) (Nat.le_refl _) ?_
              have t_77 := hT
              have : (gi (C_74 0) 7).toInt = (gi (C 0) 7).toInt := congrArg (fun z => (vi z).toInt) (f_76.2 7 (by decide))
              have : (gi (C_74 0) 13).toInt = (gi (C 0) 13).toInt := congrArg (fun z => (vi z).toInt) (f_76.2 13 (by decide))
              have : 0 ≤ (gi (C_74 0) 21).toInt ∧ (gi (C_74 0) 21).toInt ≤ 250 := fM_0_21 t_77
              have : 0 ≤ (gi (C_74 0) 7).toInt ∧ (gi (C_74 0) 7).toInt ≤ 250 := fM_0_7 t_77
              have : 0 ≤ (gi (C_74 0) 23).toInt ∧ (gi (C_74 0) 23).toInt ≤ 250 := fM_0_23 t_77
              have : 0 ≤ (gi (C_74 0) 13).toInt ∧ (gi (C_74 0) 13).toInt ≤ 5 := fM_0_13 t_77
              rw [hQ]
              exact W.zret (v := r_73) (ty := .boolean) hx hb hr (oh_nb hq_75.1) (fun t ht hW => ⟨⟨r_73, C_74, rfl, ⟨hT, hF, ⟨hq_75.1, ⟨hq_75.2.1.1, hq_75.2.1.2⟩, (fun h9 => (hq_75.2.2.2.2 h9)), (RelW.fr hR (fr_trk (mc := [(13, 14)]) (mf := [21, 22, 23, 24, 25]) fr_rf f_76 (by decide) (by decide)) (by decide)), (by omega)⟩⟩, ⟨by rw [ht]; exact hP, hD⟩⟩, hS.F ht⟩) hS.2.2 dX7_statement_259
            · have u_78 := hq_71.2 c_72
              refine lv_aload_n hx hb dX7_statement_229 rfl (lv_at hl 0 rfl) ?_
              refine va_ldcS hx hb hown (hG.2.2.1 ("OneHeavyLoadModel", 215, "load", 35) (List.mem_of_getElem? (i := 32) rfl)) dX7_statement_230 ?_
              refine lv_aload_n hx hb dX7_statement_232 rfl (lv_at hl 0 rfl) ?_
              refine va_get (D := D) (ci := 7) (v := .ref (a 13)) (C := RX7) (T := TX7) (N := 29) hx hb htg ig_7 hown hK hP 0 (oh_wg (Nat.lt_of_lt_of_le (by decide) hn) (sM_0 hT)) rfl 17 (by decide) (htg _ q_990) (fun _ h9 => h9) rfl dX7_statement_233 ?_
              refine lv_iconst (v := 0) hx hb dX7_statement_236 (by decide) ?_
              refine lv_iconst (v := 0) hx hb dX7_statement_237 (by decide) ?_
              refine lv_sipush (v := 900) hx hb dX7_statement_238 (by decide) ?_
              have : 0 ≤ (gi (C 0) 21).toInt ∧ (gi (C 0) 21).toInt ≤ 250 := fM_0_21 hT0
              have : 0 ≤ (gi (C 0) 7).toInt ∧ (gi (C 0) 7).toInt ≤ 250 := fM_0_7 hT0
              have : 0 ≤ (gi (C 0) 23).toInt ∧ (gi (C 0) 23).toInt ≤ 250 := fM_0_23 hT0
              have : 0 ≤ (gi (C 0) 13).toInt ∧ (gi (C 0) 13).toInt ≤ 5 := fM_0_13 hT0
              have : (5 : Int32).toInt = 5 := rfl
              have : (5 : Int32).toInt ≤ (gi (C 0) 13).toInt := Int32.le_iff_toInt_le.mp c_66
              refine tm_V (As := [.ref (G (3 + 32)), .ref (a 13), .int 0, .int 0, .int 900]) (rest := []) ⟨hx, hb, hml, hown, htg⟩ (c_X7_told l D E G _ a C n hn hT 32 13 (0 : Int32) (0 : Int32) (900 : Int32) (by decide) ⟨(Nat.lt_of_lt_of_le (by decide) hn), (by decide), 3, fun C h => (sM_13 h), (rg_in (rg_c (v := 0) (lo := 0) (hi := 0) (by decide)) (by decide)), fun C v h h1 h2 => (h.up 13 (by decide) (tA_upd (tM_13 h) tA_any))⟩ (by omega)) (cwV 5 htg (oh_gV q_1234 q_1236 q_45 q_73 q_1237) rfl rfl rfl pdVX7_told ⟨Nat.le_of_ble_eq_true rfl, Nat.le_of_ble_eq_true rfl⟩) hK hP hD hG hS hA (va_recv hK hP (ci := 7) (q0 := 0) rfl (oh_wg (Nat.lt_of_lt_of_le (by decide) hn) (sM_0 hT))) rfl hl.1 rfl (Nat.le_of_ble_eq_true rfl) dX7_statement_241 ⟨Nat.le_of_ble_eq_true rfl, Nat.le_of_ble_eq_true rfl⟩ (fun r_79 C_80 H locs hq_81 hP hD hS => ?_)
              obtain ⟨hT, f_82, hq_81⟩ := hq_81
              have hF := fr_trk hF f_82 (by decide) (by decide)
              refine W.widen (k := 0) (n := 0) (Nat.le_refl _) (Nat.le_refl _) ?_
              have t_83 := hT
              have : (gi (C_80 0) 7).toInt = (gi (C 0) 7).toInt := congrArg (fun z => (vi z).toInt) (f_82.2 7 (by decide))
              have : (gi (C_80 0) 13).toInt = (gi (C 0) 13).toInt := congrArg (fun z => (vi z).toInt) (f_82.2 13 (by decide))
              have : 0 ≤ (gi (C_80 0) 21).toInt ∧ (gi (C_80 0) 21).toInt ≤ 250 := fM_0_21 t_83
              have : 0 ≤ (gi (C_80 0) 7).toInt ∧ (gi (C_80 0) 7).toInt ≤ 250 := fM_0_7 t_83
              have : 0 ≤ (gi (C_80 0) 23).toInt ∧ (gi (C_80 0) 23).toInt ≤ 250 := fM_0_23 t_83
              have : 0 ≤ (gi (C_80 0) 13).toInt ∧ (gi (C_80 0) 13).toInt ≤ 5 := fM_0_13 t_83
              rw [hQ]
              exact W.zret (v := r_79) (ty := .boolean) hx hb hr (oh_nb hq_81.1) (fun t ht hW => ⟨⟨r_79, C_80, rfl, ⟨hT, hF, ⟨hq_81.1, ⟨hq_81.2.1.1, hq_81.2.1.2⟩, (fun h9 => (hq_81.2.2.2.2 h9)), (RelW.fr hR (fr_trk (mc := [(13, 14)]) (mf := [21, 22, 23, 24, 25]) fr_rf f_82 (by decide) (by decide)) (by decide)), (by omega)⟩⟩, ⟨by rw [ht]; exact hP, hD⟩⟩, hS.F ht⟩) hS.2.2 dX7_statement_244
          · have u_84 := hq_68.2 c_69
            refine lv_aload_n hx hb dX7_statement_156 rfl (lv_at hl 0 rfl) ?_
            refine va_get (D := D) (ci := 7) (v := .int (gi (C 0) 15)) (C := RX7) (T := TX7) (N := 29) hx hb htg ig_7 hown hK hP 0 (oh_wg (Nat.lt_of_lt_of_le (by decide) hn) (sM_0 hT)) rfl 15 (by decide) (htg _ q_988) (fun _ h9 => h9) rfl dX7_statement_157 ?_
            refine lv_iconst (v := 5) hx hb dX7_statement_160 (by decide) ?_
            refine lv_icmp_ge (tgt := 220) hx hb dX7_statement_161 (by decide) (fun (c_85 : (5 : Int32) ≤ (gi (C 0) 15)) => ?_) (fun (c_85 : ¬ ((5 : Int32) ≤ (gi (C 0) 15))) => ?_)
            · refine lv_aload_n hx hb dX7_statement_220 rfl (lv_at hl 0 rfl) ?_
              refine va_ldcS hx hb hown (hG.2.2.1 ("OneHeavyLoadModel", 215, "load", 35) (List.mem_of_getElem? (i := 32) rfl)) dX7_statement_221 ?_
              refine tq_V (As := [.ref (G (3 + 32))]) (rest := []) (ws := (oh_W n a C)) ⟨hx, hb, hml, hown, htg⟩ (c_X7_isWord l D E G a C n hn hT 32 (by decide)) (cwV 1 htg (oh_gV q_1215 q_1217 q_41 q_73 q_1218) rfl rfl rfl pdVX7_isWord ⟨Nat.le_of_ble_eq_true rfl, Nat.le_of_ble_eq_true rfl⟩) hK hP hG hS (va_recv hK hP (ci := 7) (q0 := 0) rfl (oh_wg (Nat.lt_of_lt_of_le (by decide) hn) (sM_0 hT))) rfl hl.1 rfl (Nat.le_of_ble_eq_true rfl) dX7_statement_223 ⟨Nat.le_of_ble_eq_true rfl, Nat.le_of_ble_eq_true rfl⟩ (fun r_86 hq_87 => ?_)
              refine lv_if_eq (tgt := 245) hx hb dX7_statement_226 (by decide) (fun (c_88 : r_86 = 0) => ?_) (fun (c_88 : ¬ (r_86 = 0)) => ?_)
              · refine lv_aload_n hx hb dX7_statement_245 rfl (lv_at hl 0 rfl) ?_
                refine va_ldcS hx hb hown (hG.2.2.1 ("OneHeavyLoadModel", 217, "mile", 36) (List.mem_of_getElem? (i := 33) rfl)) dX7_statement_246 ?_
                refine lv_aload_n hx hb dX7_statement_248 rfl (lv_at hl 0 rfl) ?_
                refine va_get (D := D) (ci := 7) (v := .ref (a 13)) (C := RX7) (T := TX7) (N := 29) hx hb htg ig_7 hown hK hP 0 (oh_wg (Nat.lt_of_lt_of_le (by decide) hn) (sM_0 hT)) rfl 17 (by decide) (htg _ q_990) (fun _ h9 => h9) rfl dX7_statement_249 ?_
                refine lv_iconst (v := 1) hx hb dX7_statement_252 (by decide) ?_
                refine lv_iconst (v := 0) hx hb dX7_statement_253 (by decide) ?_
                refine lv_bipush (v := 99) hx hb dX7_statement_254 (by decide) ?_
                have : 0 ≤ (gi (C 0) 21).toInt ∧ (gi (C 0) 21).toInt ≤ 250 := fM_0_21 hT0
                have : 0 ≤ (gi (C 0) 7).toInt ∧ (gi (C 0) 7).toInt ≤ 250 := fM_0_7 hT0
                have : 0 ≤ (gi (C 0) 23).toInt ∧ (gi (C 0) 23).toInt ≤ 250 := fM_0_23 hT0
                have : 0 ≤ (gi (C 0) 13).toInt ∧ (gi (C 0) 13).toInt ≤ 5 := fM_0_13 hT0
                have : (5 : Int32).toInt = 5 := rfl
                have : (5 : Int32).toInt ≤ (gi (C 0) 13).toInt := Int32.le_iff_toInt_le.mp c_66
                have : (5 : Int32).toInt ≤ (gi (C 0) 15).toInt := Int32.le_iff_toInt_le.mp c_85
                refine tm_V (As := [.ref (G (3 + 33)), .ref (a 13), .int 1, .int 0, .int 99]) (rest := []) ⟨hx, hb, hml, hown, htg⟩ (c_X7_told l D E G _ a C n hn hT 33 13 (1 : Int32) (0 : Int32) (99 : Int32) (by decide) ⟨(Nat.lt_of_lt_of_le (by decide) hn), (by decide), 3, fun C h => (sM_13 h), (rg_in (rg_c (v := 1) (lo := 1) (hi := 1) (by decide)) (by decide)), fun C v h h1 h2 => (h.up 13 (by decide) (tA_upd (tM_13 h) tA_any))⟩ (by omega)) (cwV 5 htg (oh_gV q_1234 q_1236 q_45 q_73 q_1237) rfl rfl rfl pdVX7_told ⟨Nat.le_of_ble_eq_true rfl, Nat.le_of_ble_eq_true rfl⟩) hK hP hD hG hS hA (va_recv hK hP (ci := 7) (q0 := 0) rfl (oh_wg (Nat.lt_of_lt_of_le (by decide) hn) (sM_0 hT))) rfl hl.1 rfl (Nat.le_of_ble_eq_true rfl) dX7_statement_256 ⟨Nat.le_of_ble_eq_true rfl, Nat.le_of_ble_eq_true rfl⟩ (fun r_89 C_90 H locs hq_91 hP hD hS => ?_)
                obtain ⟨hT, f_92, hq_91⟩ := hq_91
                have hF := fr_trk hF f_92 (by decide) (by decide)
                refine W.widen (k := 0) (n := 0) (Nat.le_refl _) (Nat.le_refl _) ?_
                have t_93 := hT
                have : (gi (C_90 0) 7).toInt = (gi (C 0) 7).toInt := congrArg (fun z => (vi z).toInt) (f_92.2 7 (by decide))
                have : (gi (C_90 0) 13).toInt = (gi (C 0) 13).toInt := congrArg (fun z => (vi z).toInt) (f_92.2 13 (by decide))
                have : 0 ≤ (gi (C_90 0) 21).toInt ∧ (gi (C_90 0) 21).toInt ≤ 250 := fM_0_21 t_93
                have : 0 ≤ (gi (C_90 0) 7).toInt ∧ (gi (C_90 0) 7).toInt ≤ 250 := fM_0_7 t_93
                have : 0 ≤ (gi (C_90 0) 23).toInt ∧ (gi (C_90 0) 23).toInt ≤ 250 := fM_0_23 t_93
                have : 0 ≤ (gi (C_90 0) 13).toInt ∧ (gi (C_90 0) 13).toInt ≤ 5 := fM_0_13 t_93
                rw [hQ]
                exact W.zret (v := r_89) (ty := .boolean) hx hb hr (oh_nb hq_91.1) (fun t ht hW => ⟨⟨r_89, C_90, rfl, ⟨hT, hF, ⟨hq_91.1, ⟨hq_91.2.1.1, hq_91.2.1.2⟩, (fun h9 => (hq_91.2.2.2.2 h9)), (RelW.fr hR (fr_trk (mc := [(13, 14)]) (mf := [21, 22, 23, 24, 25]) fr_rf f_92 (by decide) (by decide)) (by decide)), (by omega)⟩⟩, ⟨by rw [ht]; exact hP, hD⟩⟩, hS.F ht⟩) hS.2.2 dX7_statement_259
              · have u_94 := hq_87.2 c_88
                refine lv_aload_n hx hb dX7_statement_229 rfl (lv_at hl 0 rfl) ?_
                refine va_ldcS hx hb hown (hG.2.2.1 ("OneHeavyLoadModel", 215, "load", 35) (List.mem_of_getElem? (i := 32) rfl)) dX7_statement_230 ?_
                refine lv_aload_n hx hb dX7_statement_232 rfl (lv_at hl 0 rfl) ?_
                refine va_get (D := D) (ci := 7) (v := .ref (a 13)) (C := RX7) (T := TX7) (N := 29) hx hb htg ig_7 hown hK hP 0 (oh_wg (Nat.lt_of_lt_of_le (by decide) hn) (sM_0 hT)) rfl 17 (by decide) (htg _ q_990) (fun _ h9 => h9) rfl dX7_statement_233 ?_
                refine lv_iconst (v := 0) hx hb dX7_statement_236 (by decide) ?_
                refine lv_iconst (v := 0) hx hb dX7_statement_237 (by decide) ?_
                refine lv_sipush (v := 900) hx hb dX7_statement_238 (by decide) ?_
                have : 0 ≤ (gi (C 0) 21).toInt ∧ (gi (C 0) 21).toInt ≤ 250 := fM_0_21 hT0
                have : 0 ≤ (gi (C 0) 7).toInt ∧ (gi (C 0) 7).toInt ≤ 250 := fM_0_7 hT0
                have : 0 ≤ (gi (C 0) 23).toInt ∧ (gi (C 0) 23).toInt ≤ 250 := fM_0_23 hT0
                have : 0 ≤ (gi (C 0) 13).toInt ∧ (gi (C 0) 13).toInt ≤ 5 := fM_0_13 hT0
                have : (5 : Int32).toInt = 5 := rfl
                have : (5 : Int32).toInt ≤ (gi (C 0) 13).toInt := Int32.le_iff_toInt_le.mp c_66
                have : (5 : Int32).toInt ≤ (gi (C 0) 15).toInt := Int32.le_iff_toInt_le.mp c_85
                refine tm_V (As := [.ref (G (3 + 32)), .ref (a 13), .int 0, .int 0, .int 900]) (rest := []) ⟨hx, hb, hml, hown, htg⟩ (c_X7_told l D E G _ a C n hn hT 32 13 (0 : Int32) (0 : Int32) (900 : Int32) (by decide) ⟨(Nat.lt_of_lt_of_le (by decide) hn), (by decide), 3, fun C h => (sM_13 h), (rg_in (rg_c (v := 0) (lo := 0) (hi := 0) (by decide)) (by decide)), fun C v h h1 h2 => (h.up 13 (by decide) (tA_upd (tM_13 h) tA_any))⟩ (by omega)) (cwV 5 htg (oh_gV q_1234 q_1236 q_45 q_73 q_1237) rfl rfl rfl pdVX7_told ⟨Nat.le_of_ble_eq_true rfl, Nat.le_of_ble_eq_true rfl⟩) hK hP hD hG hS hA (va_recv hK hP (ci := 7) (q0 := 0) rfl (oh_wg (Nat.lt_of_lt_of_le (by decide) hn) (sM_0 hT))) rfl hl.1 rfl (Nat.le_of_ble_eq_true rfl) dX7_statement_241 ⟨Nat.le_of_ble_eq_true rfl, Nat.le_of_ble_eq_true rfl⟩ (fun r_95 C_96 H locs hq_97 hP hD hS => ?_)
                obtain ⟨hT, f_98, hq_97⟩ := hq_97
                have hF := fr_trk hF f_98 (by decide) (by decide)
                refine W.widen (k := 0) (n := 0) (Nat.le_refl _) (Nat.le_refl _) ?_
                have t_99 := hT
                have : (gi (C_96 0) 7).toInt = (gi (C 0) 7).toInt := congrArg (fun z => (vi z).toInt) (f_98.2 7 (by decide))
                have : (gi (C_96 0) 13).toInt = (gi (C 0) 13).toInt := congrArg (fun z => (vi z).toInt) (f_98.2 13 (by decide))
                have : 0 ≤ (gi (C_96 0) 21).toInt ∧ (gi (C_96 0) 21).toInt ≤ 250 := fM_0_21 t_99
                have : 0 ≤ (gi (C_96 0) 7).toInt ∧ (gi (C_96 0) 7).toInt ≤ 250 := fM_0_7 t_99
                have : 0 ≤ (gi (C_96 0) 23).toInt ∧ (gi (C_96 0) 23).toInt ≤ 250 := fM_0_23 t_99
                have : 0 ≤ (gi (C_96 0) 13).toInt ∧ (gi (C_96 0) 13).toInt ≤ 5 := fM_0_13 t_99
                rw [hQ]
                exact W.zret (v := r_95) (ty := .boolean) hx hb hr (oh_nb hq_97.1) (fun t ht hW => ⟨⟨r_95, C_96, rfl, ⟨hT, hF, ⟨hq_97.1, ⟨hq_97.2.1.1, hq_97.2.1.2⟩, (fun h9 => (hq_97.2.2.2.2 h9)), (RelW.fr hR (fr_trk (mc := [(13, 14)]) (mf := [21, 22, 23, 24, 25]) fr_rf f_98 (by decide) (by decide)) (by decide)), (by omega)⟩⟩, ⟨by rw [ht]; exact hP, hD⟩⟩, hS.F ht⟩) hS.2.2 dX7_statement_244
            · refine lv_aload_n hx hb dX7_statement_164 rfl (lv_at hl 0 rfl) ?_
              refine va_ldcS hx hb hown (hG.2.2.1 ("OneHeavyLoadModel", 214, "part", 34) (List.mem_of_getElem? (i := 31) rfl)) dX7_statement_165 ?_
              refine lv_aload_n hx hb dX7_statement_167 rfl (lv_at hl 0 rfl) ?_
              refine va_get (D := D) (ci := 7) (v := .ref (a 12)) (C := RX7) (T := TX7) (N := 29) hx hb htg ig_7 hown hK hP 0 (oh_wg (Nat.lt_of_lt_of_le (by decide) hn) (sM_0 hT)) rfl 16 (by decide) (htg _ q_989) (fun _ h9 => h9) rfl dX7_statement_168 ?_
              refine lv_aload_n hx hb dX7_statement_171 rfl (lv_at hl 0 rfl) ?_
              refine va_get (D := D) (ci := 7) (v := .int (gi (C 0) 15)) (C := RX7) (T := TX7) (N := 29) hx hb htg ig_7 hown hK hP 0 (oh_wg (Nat.lt_of_lt_of_le (by decide) hn) (sM_0 hT)) rfl 15 (by decide) (htg _ q_988) (fun _ h9 => h9) rfl dX7_statement_172 ?_
              have n_100 : vp_in (gi (C 0) 15) 5 := (rg_in (rn_ltu (u' := 4) (Int32.not_le.mp c_85) (fM_0_15 hT0) (rg_c (v := 5) (lo := 5) (hi := 5) (by decide)) (by decide)) (by decide))
              have b_101 : (gi (C 0) 15).toNatClampNeg < 5 := vp_lt n_100
              refine th_aald hx hb hK hP 12 2 (Nat.lt_of_lt_of_le (by decide) hn) (sM_12 hT) rfl n_100 dX7_statement_175 ?_
              refine lv_iconst (v := 0) hx hb dX7_statement_176 (by decide) ?_
              refine lv_iconst (v := 1) hx hb dX7_statement_177 (by decide) ?_
              refine lv_bipush (v := 99) hx hb dX7_statement_178 (by decide) ?_
              have : 0 ≤ (gi (C 0) 21).toInt ∧ (gi (C 0) 21).toInt ≤ 250 := fM_0_21 hT0
              have : 0 ≤ (gi (C 0) 7).toInt ∧ (gi (C 0) 7).toInt ≤ 250 := fM_0_7 hT0
              have : 0 ≤ (gi (C 0) 23).toInt ∧ (gi (C 0) 23).toInt ≤ 250 := fM_0_23 hT0
              have : 0 ≤ (gi (C 0) 13).toInt ∧ (gi (C 0) 13).toInt ≤ 5 := fM_0_13 hT0
              have : (5 : Int32).toInt = 5 := rfl
              have : (5 : Int32).toInt ≤ (gi (C 0) 13).toInt := Int32.le_iff_toInt_le.mp c_66
              have : (gi (C 0) 15).toInt < (5 : Int32).toInt := Int32.lt_iff_toInt_lt.mp (Int32.not_le.mp c_85)
              refine tm_V (As := [.ref (G (3 + 31)), .ref (a (69 + (gi (C 0) 15).toNatClampNeg)), .int 0, .int 1, .int 99]) (rest := []) ⟨hx, hb, hml, hown, htg⟩ (c_X7_told l D E G _ a C n hn hT 31 (69 + (gi (C 0) 15).toNatClampNeg) (0 : Int32) (1 : Int32) (99 : Int32) (by decide) ⟨(lt_blk b_101 hn (by decide)), (by omega), 2, fun C h => (h.bpart b_101).1, (rg_in (rg_c (v := 0) (lo := 0) (hi := 0) (by decide)) (by decide)), fun C v h h1 h2 => (h.uppart b_101 (tA_upd (h.bpart b_101) tA_any))⟩ (by omega)) (cwV 5 htg (oh_gV q_1234 q_1236 q_45 q_73 q_1237) rfl rfl rfl pdVX7_told ⟨Nat.le_of_ble_eq_true rfl, Nat.le_of_ble_eq_true rfl⟩) hK hP hD hG hS hA (va_recv hK hP (ci := 7) (q0 := 0) rfl (oh_wg (Nat.lt_of_lt_of_le (by decide) hn) (sM_0 hT))) rfl hl.1 rfl (Nat.le_of_ble_eq_true rfl) dX7_statement_180 ⟨Nat.le_of_ble_eq_true rfl, Nat.le_of_ble_eq_true rfl⟩ (fun r_102 C_103 H locs hq_104 hP hD hS => ?_)
              obtain ⟨hT, f_105, hq_104⟩ := hq_104
              have hF := fr_trk hF f_105 (inR_of (p := (69, 74)) (by decide) (by show 69 ≤ _; omega) (by show _ < 74; omega)) (by decide)
              refine W.widen (k := 0) (n := 0) (Nat.le_refl _) (Nat.le_refl _) ?_
              have t_106 := hT
              refine lv_if_eq (tgt := 206) hx hb dX7_statement_183 (by decide) (fun (c_107 : r_102 = 0) => ?_) (fun (c_107 : ¬ (r_102 = 0)) => ?_)
              · refine lv_iconst (v := 0) hx hb dX7_statement_206 (by decide) ?_
                have : (gi (C_103 0) 7).toInt = (gi (C 0) 7).toInt := congrArg (fun z => (vi z).toInt) (f_105.2 7 (by decide))
                have : (gi (C_103 0) 13).toInt = (gi (C 0) 13).toInt := congrArg (fun z => (vi z).toInt) (f_105.2 13 (by decide))
                have : 0 ≤ (gi (C_103 0) 21).toInt ∧ (gi (C_103 0) 21).toInt ≤ 250 := fM_0_21 t_106
                have : 0 ≤ (gi (C_103 0) 7).toInt ∧ (gi (C_103 0) 7).toInt ≤ 250 := fM_0_7 t_106
                have : 0 ≤ (gi (C_103 0) 23).toInt ∧ (gi (C_103 0) 23).toInt ≤ 250 := fM_0_23 t_106
                have : 0 ≤ (gi (C_103 0) 13).toInt ∧ (gi (C_103 0) 13).toInt ≤ 5 := fM_0_13 t_106
                rw [hQ]
                exact W.zret (v := 0) (ty := .boolean) hx hb hr (by decide) (fun t ht hW => ⟨⟨0, C_103, rfl, ⟨hT, hF, ⟨(Or.inl rfl), ⟨hq_104.2.1.1, hq_104.2.1.2⟩, (fun h9 => absurd rfl h9), (RelW.fr hR (fr_trk (mc := [(69, 74)]) (mf := [21, 22, 23, 24, 25]) fr_rf f_105 (inR_of (p := (69, 74)) (by decide) (by show 69 ≤ _; omega) (by show _ < 74; omega)) (by decide)) (by decide)), (by omega)⟩⟩, ⟨by rw [ht]; exact hP, hD⟩⟩, hS.F ht⟩) hS.2.2 dX7_statement_207
              · have u_108 := hq_104.2.2.2.1 c_107
                have u_109 := hq_104.2.2.2.2 c_107
                refine lv_aload_n hx hb dX7_statement_186 rfl (lv_at hl 0 rfl) ?_
                refine lv_aload_n hx hb dX7_statement_187 rfl (lv_at hl 0 rfl) ?_
                refine va_get (D := D) (ci := 7) (v := .ref (a 12)) (C := RX7) (T := TX7) (N := 29) hx hb htg ig_7 hown hK hP 0 (oh_wg (Nat.lt_of_lt_of_le (by decide) hn) (sM_0 hT)) rfl 16 (by decide) (htg _ q_989) (fun _ h9 => h9) rfl dX7_statement_188 ?_
                refine lv_aload_n hx hb dX7_statement_191 rfl (lv_at hl 0 rfl) ?_
                refine va_get (D := D) (ci := 7) (v := .int (gi (C 0) 15)) (C := RX7) (T := TX7) (N := 29) hx hb htg ig_7 hown hK hP 0 (oh_wg (Nat.lt_of_lt_of_le (by decide) hn) (sM_0 hT)) rfl 15 (by decide) (htg _ q_988) (fun _ h9 => h9) (oh_fv (c := C_103 0) (j := 15) rfl (congrArg vi (f_105.2 15 (by decide)))) dX7_statement_192 ?_
                have n_110 : vp_in (gi (C 0) 15) 5 := (rg_in (rn_ltu (u' := 4) (Int32.not_le.mp c_85) (fM_0_15 hT0) (rg_c (v := 5) (lo := 5) (hi := 5) (by decide)) (by decide)) (by decide))
                have b_111 : (gi (C 0) 15).toNatClampNeg < 5 := vp_lt n_110
                refine th_aald hx hb hK hP 12 2 (Nat.lt_of_lt_of_le (by decide) hn) (sM_12 hT) rfl n_110 dX7_statement_195 ?_
                refine lv_iconst (v := 1) hx hb dX7_statement_196 (by decide) ?_
                refine lv_iconst (v := 0) hx hb dX7_statement_197 (by decide) ?_
                refine lv_bipush (v := 99) hx hb dX7_statement_198 (by decide) ?_
                have : (gi (C_103 0) 7).toInt = (gi (C 0) 7).toInt := congrArg (fun z => (vi z).toInt) (f_105.2 7 (by decide))
                have : (gi (C_103 0) 13).toInt = (gi (C 0) 13).toInt := congrArg (fun z => (vi z).toInt) (f_105.2 13 (by decide))
                have : 0 ≤ (gi (C_103 0) 21).toInt ∧ (gi (C_103 0) 21).toInt ≤ 250 := fM_0_21 t_106
                have : 0 ≤ (gi (C_103 0) 7).toInt ∧ (gi (C_103 0) 7).toInt ≤ 250 := fM_0_7 t_106
                have : 0 ≤ (gi (C_103 0) 23).toInt ∧ (gi (C_103 0) 23).toInt ≤ 250 := fM_0_23 t_106
                have : 0 ≤ (gi (C_103 0) 13).toInt ∧ (gi (C_103 0) 13).toInt ≤ 5 := fM_0_13 t_106
                refine tm_V (As := [.ref (a (69 + (gi (C 0) 15).toNatClampNeg)), .int 1, .int 0, .int 99]) (rest := []) ⟨hx, hb, hml, hown, htg⟩ (c_X7_number l D E G _ a C_103 n hn hT (69 + (gi (C 0) 15).toNatClampNeg) (1 : Int32) (0 : Int32) (99 : Int32) ⟨(lt_blk b_111 hn (by decide)), (by omega), 2, fun C h => (h.bpart b_111).1, (rg_in (rg_c (v := 1) (lo := 1) (hi := 1) (by decide)) (by decide)), fun C v h h1 h2 => (h.uppart b_111 (tA_upd (h.bpart b_111) tA_any))⟩ (by omega)) (cwV 4 htg (oh_gV q_1225 q_1227 q_43 q_73 q_1228) rfl rfl rfl pdVX7_number ⟨Nat.le_of_ble_eq_true rfl, Nat.le_of_ble_eq_true rfl⟩) hK hP hD hG hS hA (va_recv hK hP (ci := 7) (q0 := 0) rfl (oh_wg (Nat.lt_of_lt_of_le (by decide) hn) (sM_0 hT))) rfl hl.1 rfl (Nat.le_of_ble_eq_true rfl) dX7_statement_200 ⟨Nat.le_of_ble_eq_true rfl, Nat.le_of_ble_eq_true rfl⟩ (fun r_112 C_113 H locs hq_114 hP hD hS => ?_)
                obtain ⟨hT, f_115, hq_114⟩ := hq_114
                have hF := fr_trk hF f_115 (inR_of (p := (69, 74)) (by decide) (by show 69 ≤ _; omega) (by show _ < 74; omega)) (by decide)
                refine W.widen (k := 0) (n := 0) (Nat.le_refl _) (Nat.le_refl _) ?_
                have t_116 := hT
                refine lv_if_ne (tgt := 208) hx hb dX7_statement_203 (by decide) (fun (c_117 : ¬ (r_112 = 0)) => ?_) (fun (c_117 : r_112 = 0) => ?_)
                · have u_118 := hq_114.2.2.2 c_117
                  refine lv_aload_n hx hb dX7_statement_208 rfl (lv_at hl 0 rfl) ?_
                  refine lv_dup hx hb dX7_statement_209 rfl ?_
                  refine va_get (D := D) (ci := 7) (v := .int (gi (C 0) 15)) (C := RX7) (T := TX7) (N := 29) hx hb htg ig_7 hown hK hP 0 (oh_wg (Nat.lt_of_lt_of_le (by decide) hn) (sM_0 hT)) rfl 15 (by decide) (htg _ q_988) (fun _ h9 => h9) (oh_fv (c := C_113 0) (j := 15) rfl (Eq.trans (congrArg vi (f_115.2 15 (by decide))) (congrArg vi (f_105.2 15 (by decide))))) dX7_statement_210 ?_
                  refine lv_iconst (v := 1) hx hb dX7_statement_213 (by decide) ?_
                  refine lv_iadd hx hb dX7_statement_214 ?_
                  refine th_put (Tp := TyM a E) (Rl := fr [(13, 14), (24, 48), (48, 64), (64, 69), (69, 74)] [9, 11, 13, 15, 21, 22, 23, 24, 25] C) (ci := 7) (v := .int ((gi (C 0) 15) + 1)) (ty := .int) (CC := RX7) (T := TX7) (N := 29) hx hb htg ig_7 tyX7 tyX7_ok nmX7 hown hK hP hD hS 0 (Nat.lt_of_lt_of_le (by decide) hn) (sM_0 hT) rfl 15 (by decide) (htg _ q_988) (fun _ h9 => h9) rfl (by decide +kernel) rfl rfl (Nat.le_of_ble_eq_true rfl) (hT.up 0 (by decide) ⟨rfl, (fM_0_7 hT), (fM_0_9 hT), (fM_0_11 hT), (fM_0_13 hT), (rg_w (rg_add (lo := 1) (hi := 5) (rn_ltu (u' := 4) (Int32.not_le.mp c_85) (fM_0_15 hT0) (rg_c (v := 5) (lo := 5) (hi := 5) (by decide)) (by decide)) (rg_c (v := 1) (lo := 1) (hi := 1) (by decide)) (by decide)) (by decide)), (fM_0_21 hT), (fM_0_23 hT)⟩) (fr_fd hF (sM_0 hT) (by decide)) dX7_statement_215 (fun C_119 H locs e_120 hT hF hP hD hS => ?_)
                  have t_121 := hT
                  refine lv_iconst (v := 1) hx hb dX7_statement_218 (by decide) ?_
                  have : (gi (C_113 0) 7).toInt = (gi (C_103 0) 7).toInt := congrArg (fun z => (vi z).toInt) (f_115.2 7 (by decide))
                  have : (gi (C_113 0) 13).toInt = (gi (C_103 0) 13).toInt := congrArg (fun z => (vi z).toInt) (f_115.2 13 (by decide))
                  have : (gi (C_119 0) 21).toInt = (gi (C_113 0) 21).toInt := congrArg Int32.toInt (show gi (C_119 0) 21 = gi (C_113 0) 21 by rw [e_120]; rfl)
                  have : (gi (C_119 0) 7).toInt = (gi (C_113 0) 7).toInt := congrArg Int32.toInt (show gi (C_119 0) 7 = gi (C_113 0) 7 by rw [e_120]; rfl)
                  have : (gi (C_119 0) 23).toInt = (gi (C_113 0) 23).toInt := congrArg Int32.toInt (show gi (C_119 0) 23 = gi (C_113 0) 23 by rw [e_120]; rfl)
                  have : (gi (C_119 0) 13).toInt = (gi (C_113 0) 13).toInt := congrArg Int32.toInt (show gi (C_119 0) 13 = gi (C_113 0) 13 by rw [e_120]; rfl)
                  have : 0 ≤ (gi (C_113 0) 21).toInt ∧ (gi (C_113 0) 21).toInt ≤ 250 := fM_0_21 t_116
                  have : 0 ≤ (gi (C_113 0) 7).toInt ∧ (gi (C_113 0) 7).toInt ≤ 250 := fM_0_7 t_116
                  have : 0 ≤ (gi (C_113 0) 23).toInt ∧ (gi (C_113 0) 23).toInt ≤ 250 := fM_0_23 t_116
                  have : 0 ≤ (gi (C_113 0) 13).toInt ∧ (gi (C_113 0) 13).toInt ≤ 5 := fM_0_13 t_116
                  have : 0 ≤ (gi (C_119 0) 21).toInt ∧ (gi (C_119 0) 21).toInt ≤ 250 := fM_0_21 t_121
                  have : 0 ≤ (gi (C_119 0) 7).toInt ∧ (gi (C_119 0) 7).toInt ≤ 250 := fM_0_7 t_121
                  have : 0 ≤ (gi (C_119 0) 23).toInt ∧ (gi (C_119 0) 23).toInt ≤ 250 := fM_0_23 t_121
                  have : 0 ≤ (gi (C_119 0) 13).toInt ∧ (gi (C_119 0) 13).toInt ≤ 5 := fM_0_13 t_121
                  rw [hQ]
                  exact W.zret (v := 1) (ty := .boolean) hx hb hr (by decide) (fun t ht hW => ⟨⟨1, C_119, rfl, ⟨hT, hF, ⟨(Or.inr rfl), ⟨(by omega), (by omega)⟩, (fun _ => (by omega)), (RelW.fr (RelW.fr (RelW.fr hR (fr_trk (mc := [(69, 74)]) (mf := [21, 22, 23, 24, 25]) fr_rf f_105 (inR_of (p := (69, 74)) (by decide) (by show 69 ≤ _; omega) (by show _ < 74; omega)) (by decide)) (by decide)) (fr_trk (mc := [(69, 74)]) (mf := [21, 22, 23, 24, 25]) fr_rf f_115 (inR_of (p := (69, 74)) (by decide) (by show 69 ≤ _; omega) (by show _ < 74; omega)) (by decide)) (by decide)) (fr_fde (mc := []) (mf := [15]) fr_rf e_120 (sM_0 t_116) (by decide)) (by decide)), (by omega)⟩⟩, ⟨by rw [ht]; exact hP, hD⟩⟩, hS.F ht⟩) hS.2.2 dX7_statement_219
                · refine lv_iconst (v := 0) hx hb dX7_statement_206 (by decide) ?_
                  have : (gi (C_113 0) 7).toInt = (gi (C_103 0) 7).toInt := congrArg (fun z => (vi z).toInt) (f_115.2 7 (by decide))
                  have : (gi (C_113 0) 13).toInt = (gi (C_103 0) 13).toInt := congrArg (fun z => (vi z).toInt) (f_115.2 13 (by decide))
                  have : 0 ≤ (gi (C_113 0) 21).toInt ∧ (gi (C_113 0) 21).toInt ≤ 250 := fM_0_21 t_116
                  have : 0 ≤ (gi (C_113 0) 7).toInt ∧ (gi (C_113 0) 7).toInt ≤ 250 := fM_0_7 t_116
                  have : 0 ≤ (gi (C_113 0) 23).toInt ∧ (gi (C_113 0) 23).toInt ≤ 250 := fM_0_23 t_116
                  have : 0 ≤ (gi (C_113 0) 13).toInt ∧ (gi (C_113 0) 13).toInt ≤ 5 := fM_0_13 t_116
                  rw [hQ]
                  exact W.zret (v := 0) (ty := .boolean) hx hb hr (by decide) (fun t ht hW => ⟨⟨0, C_113, rfl, ⟨hT, hF, ⟨(Or.inl rfl), ⟨(by omega), hq_114.2.1.2⟩, (fun h9 => absurd rfl h9), (RelW.fr (RelW.fr hR (fr_trk (mc := [(69, 74)]) (mf := [21, 22, 23, 24, 25]) fr_rf f_105 (inR_of (p := (69, 74)) (by decide) (by show 69 ≤ _; omega) (by show _ < 74; omega)) (by decide)) (by decide)) (fr_trk (mc := [(69, 74)]) (mf := [21, 22, 23, 24, 25]) fr_rf f_115 (inR_of (p := (69, 74)) (by decide) (by show 69 ≤ _; omega) (by show _ < 74; omega)) (by decide)) (by decide)), (by omega)⟩⟩, ⟨by rw [ht]; exact hP, hD⟩⟩, hS.F ht⟩) hS.2.2 dX7_statement_207
        · refine lv_aload_n hx hb dX7_statement_81 rfl (lv_at hl 0 rfl) ?_
          refine va_get (D := D) (ci := 7) (v := .ref (a 11)) (C := RX7) (T := TX7) (N := 29) hx hb htg ig_7 hown hK hP 0 (oh_wg (Nat.lt_of_lt_of_le (by decide) hn) (sM_0 hT)) rfl 14 (by decide) (htg _ q_987) (fun _ h9 => h9) rfl dX7_statement_82 ?_
          refine lv_aload_n hx hb dX7_statement_85 rfl (lv_at hl 0 rfl) ?_
          refine va_get (D := D) (ci := 7) (v := .int (gi (C 0) 13)) (C := RX7) (T := TX7) (N := 29) hx hb htg ig_7 hown hK hP 0 (oh_wg (Nat.lt_of_lt_of_le (by decide) hn) (sM_0 hT)) rfl 13 (by decide) (htg _ q_986) (fun _ h9 => h9) rfl dX7_statement_86 ?_
          have n_122 : vp_in (gi (C 0) 13) 5 := (rg_in (rn_ltu (u' := 4) (Int32.not_le.mp c_66) (fM_0_13 hT0) (rg_c (v := 5) (lo := 5) (hi := 5) (by decide)) (by decide)) (by decide))
          have b_123 : (gi (C 0) 13).toNatClampNeg < 5 := vp_lt n_122
          refine th_aald hx hb hK hP 11 2 (Nat.lt_of_lt_of_le (by decide) hn) (sM_11 hT) rfl n_122 dX7_statement_89 ?_
          refine lv_astore_n (lv' := [(1, .ref (a (64 + (gi (C 0) 13).toNatClampNeg))), (0, .ref (a 0))]) hx hb dX7_statement_90 rfl hl (by decide) rfl (fun ls hl => ?_)
          refine lv_aload_n hx hb dX7_statement_91 rfl (lv_at hl 1 rfl) ?_
          refine va_ldcS hx hb hown (hG.2.2.1 ("OneHeavyLoadModel", 209, "waggon", 31) (List.mem_of_getElem? (i := 28) rfl)) dX7_statement_92 ?_
          refine lv_aload_n hx hb dX7_statement_94 rfl (lv_at hl 0 rfl) ?_
          refine lv_iconst (v := 0) hx hb dX7_statement_95 (by decide) ?_
          refine lv_iconst (v := 2) hx hb dX7_statement_96 (by decide) ?_
          refine lv_bipush (v := 12) hx hb dX7_statement_97 (by decide) ?_
          have : 0 ≤ (gi (C 0) 21).toInt ∧ (gi (C 0) 21).toInt ≤ 250 := fM_0_21 hT0
          have : 0 ≤ (gi (C 0) 7).toInt ∧ (gi (C 0) 7).toInt ≤ 250 := fM_0_7 hT0
          have : 0 ≤ (gi (C 0) 23).toInt ∧ (gi (C 0) 23).toInt ≤ 250 := fM_0_23 hT0
          have : 0 ≤ (gi (C 0) 13).toInt ∧ (gi (C 0) 13).toInt ≤ 5 := fM_0_13 hT0
          have : (5 : Int32).toInt = 5 := rfl
          have : (gi (C 0) 13).toInt < (5 : Int32).toInt := Int32.lt_iff_toInt_lt.mp (Int32.not_le.mp c_66)
          refine tm_V (As := [.ref (G (3 + 28)), .ref (a (64 + (gi (C 0) 13).toNatClampNeg)), .int 0, .int 2, .int 12]) (rest := []) ⟨hx, hb, hml, hown, htg⟩ (c_X7_told l D E G _ a C n hn hT 28 (64 + (gi (C 0) 13).toNatClampNeg) (0 : Int32) (2 : Int32) (12 : Int32) (by decide) ⟨(lt_blk b_123 hn (by decide)), (by omega), 3, fun C h => (h.bwaggon b_123).1, (rg_in (rg_c (v := 0) (lo := 0) (hi := 0) (by decide)) (by decide)), fun C v h h1 h2 => (h.upwaggon b_123 (tA_upd (h.bwaggon b_123) (tA_stc (k := 0) (by decide) (oh_rgle (lo := 0) (hi := 12) h1 h2 (by decide)) (by decide))))⟩ (by omega)) (cwV 5 htg (oh_gV q_1234 q_1236 q_45 q_73 q_1237) rfl rfl rfl pdVX7_told ⟨Nat.le_of_ble_eq_true rfl, Nat.le_of_ble_eq_true rfl⟩) hK hP hD hG hS hA (va_recv hK hP (ci := 7) (q0 := 0) rfl (oh_wg (Nat.lt_of_lt_of_le (by decide) hn) (sM_0 hT))) rfl hl.1 rfl (Nat.le_of_ble_eq_true rfl) dX7_statement_99 ⟨Nat.le_of_ble_eq_true rfl, Nat.le_of_ble_eq_true rfl⟩ (fun r_124 C_125 H locs hq_126 hP hD hS => ?_)
          obtain ⟨hT, f_127, hq_126⟩ := hq_126
          have hF := fr_trk hF f_127 (inR_of (p := (64, 69)) (by decide) (by show 64 ≤ _; omega) (by show _ < 69; omega)) (by decide)
          refine W.widen (k := 0) (n := 0) (Nat.le_refl _) (Nat.le_refl _) ?_
          have t_128 := hT
          refine lv_if_eq (tgt := 133) hx hb dX7_statement_102 (by decide) (fun (c_129 : r_124 = 0) => ?_) (fun (c_129 : ¬ (r_124 = 0)) => ?_)
          · refine lv_iconst (v := 0) hx hb dX7_statement_133 (by decide) ?_
            have : (gi (C_125 0) 7).toInt = (gi (C 0) 7).toInt := congrArg (fun z => (vi z).toInt) (f_127.2 7 (by decide))
            have : (gi (C_125 0) 13).toInt = (gi (C 0) 13).toInt := congrArg (fun z => (vi z).toInt) (f_127.2 13 (by decide))
            have : 0 ≤ (gi (C_125 0) 21).toInt ∧ (gi (C_125 0) 21).toInt ≤ 250 := fM_0_21 t_128
            have : 0 ≤ (gi (C_125 0) 7).toInt ∧ (gi (C_125 0) 7).toInt ≤ 250 := fM_0_7 t_128
            have : 0 ≤ (gi (C_125 0) 23).toInt ∧ (gi (C_125 0) 23).toInt ≤ 250 := fM_0_23 t_128
            have : 0 ≤ (gi (C_125 0) 13).toInt ∧ (gi (C_125 0) 13).toInt ≤ 5 := fM_0_13 t_128
            rw [hQ]
            exact W.zret (v := 0) (ty := .boolean) hx hb hr (by decide) (fun t ht hW => ⟨⟨0, C_125, rfl, ⟨hT, hF, ⟨(Or.inl rfl), ⟨hq_126.2.1.1, hq_126.2.1.2⟩, (fun h9 => absurd rfl h9), (relW_row (w := (gi (C 0) 13).toNatClampNeg) hR f_127 (oh_nat (fM_0_13 hT0) (by decide)) (by decide)), (by omega)⟩⟩, ⟨by rw [ht]; exact hP, hD⟩⟩, hS.F ht⟩) hS.2.2 dX7_statement_134
          · have u_130 := hq_126.2.2.2.1 c_129
            have u_131 := hq_126.2.2.2.2 c_129
            refine lv_aload_n hx hb dX7_statement_105 rfl (lv_at hl 1 rfl) ?_
            refine va_ldcS hx hb hown (hG.2.2.1 ("OneHeavyLoadModel", 210, "space", 32) (List.mem_of_getElem? (i := 29) rfl)) dX7_statement_106 ?_
            refine lv_aload_n hx hb dX7_statement_108 rfl (lv_at hl 0 rfl) ?_
            refine lv_iconst (v := 1) hx hb dX7_statement_109 (by decide) ?_
            refine lv_iconst (v := 1) hx hb dX7_statement_110 (by decide) ?_
            refine lv_bipush (v := 9) hx hb dX7_statement_111 (by decide) ?_
            have : (gi (C_125 0) 7).toInt = (gi (C 0) 7).toInt := congrArg (fun z => (vi z).toInt) (f_127.2 7 (by decide))
            have : (gi (C_125 0) 13).toInt = (gi (C 0) 13).toInt := congrArg (fun z => (vi z).toInt) (f_127.2 13 (by decide))
            have : 0 ≤ (gi (C_125 0) 21).toInt ∧ (gi (C_125 0) 21).toInt ≤ 250 := fM_0_21 t_128
            have : 0 ≤ (gi (C_125 0) 7).toInt ∧ (gi (C_125 0) 7).toInt ≤ 250 := fM_0_7 t_128
            have : 0 ≤ (gi (C_125 0) 23).toInt ∧ (gi (C_125 0) 23).toInt ≤ 250 := fM_0_23 t_128
            have : 0 ≤ (gi (C_125 0) 13).toInt ∧ (gi (C_125 0) 13).toInt ≤ 5 := fM_0_13 t_128
            refine tm_V (As := [.ref (G (3 + 29)), .ref (a (64 + (gi (C 0) 13).toNatClampNeg)), .int 1, .int 1, .int 9]) (rest := []) ⟨hx, hb, hml, hown, htg⟩ (c_X7_told l D E G _ a C_125 n hn hT 29 (64 + (gi (C 0) 13).toNatClampNeg) (1 : Int32) (1 : Int32) (9 : Int32) (by decide) ⟨(lt_blk b_123 hn (by decide)), (by omega), 3, fun C h => (h.bwaggon b_123).1, (rg_in (rg_c (v := 1) (lo := 1) (hi := 1) (by decide)) (by decide)), fun C v h h1 h2 => (h.upwaggon b_123 (tA_upd (h.bwaggon b_123) (tA_stc (k := 1) (by decide) (oh_rgle (lo := 0) (hi := 9) h1 h2 (by decide)) (by decide))))⟩ (by omega)) (cwV 5 htg (oh_gV q_1234 q_1236 q_45 q_73 q_1237) rfl rfl rfl pdVX7_told ⟨Nat.le_of_ble_eq_true rfl, Nat.le_of_ble_eq_true rfl⟩) hK hP hD hG hS hA (va_recv hK hP (ci := 7) (q0 := 0) rfl (oh_wg (Nat.lt_of_lt_of_le (by decide) hn) (sM_0 hT))) rfl hl.1 rfl (Nat.le_of_ble_eq_true rfl) dX7_statement_113 ⟨Nat.le_of_ble_eq_true rfl, Nat.le_of_ble_eq_true rfl⟩ (fun r_132 C_133 H locs hq_134 hP hD hS => ?_)
            obtain ⟨hT, f_135, hq_134⟩ := hq_134
            have hF := fr_trk hF f_135 (inR_of (p := (64, 69)) (by decide) (by show 64 ≤ _; omega) (by show _ < 69; omega)) (by decide)
            refine W.widen (k := 0) (n := 0) (Nat.le_refl _) (Nat.le_refl _) ?_
            have t_136 := hT
            refine lv_if_eq (tgt := 133) hx hb dX7_statement_116 (by decide) (fun (c_137 : r_132 = 0) => ?_) (fun (c_137 : ¬ (r_132 = 0)) => ?_)
            · refine lv_iconst (v := 0) hx hb dX7_statement_133 (by decide) ?_
              have : (gi (C_133 0) 7).toInt = (gi (C_125 0) 7).toInt := congrArg (fun z => (vi z).toInt) (f_135.2 7 (by decide))
              have : (gi (C_133 0) 13).toInt = (gi (C_125 0) 13).toInt := congrArg (fun z => (vi z).toInt) (f_135.2 13 (by decide))
              have : 0 ≤ (gi (C_133 0) 21).toInt ∧ (gi (C_133 0) 21).toInt ≤ 250 := fM_0_21 t_136
              have : 0 ≤ (gi (C_133 0) 7).toInt ∧ (gi (C_133 0) 7).toInt ≤ 250 := fM_0_7 t_136
              have : 0 ≤ (gi (C_133 0) 23).toInt ∧ (gi (C_133 0) 23).toInt ≤ 250 := fM_0_23 t_136
              have : 0 ≤ (gi (C_133 0) 13).toInt ∧ (gi (C_133 0) 13).toInt ≤ 5 := fM_0_13 t_136
              rw [hQ]
              exact W.zret (v := 0) (ty := .boolean) hx hb hr (by decide) (fun t ht hW => ⟨⟨0, C_133, rfl, ⟨hT, hF, ⟨(Or.inl rfl), ⟨(by omega), hq_134.2.1.2⟩, (fun h9 => absurd rfl h9), (relW_row (w := (gi (C 0) 13).toNatClampNeg) (relW_row (w := (gi (C 0) 13).toNatClampNeg) hR f_127 (oh_nat (fM_0_13 hT0) (by decide)) (by decide)) f_135 (by rw [(show gi (C_125 0) 13 = gi (C 0) 13 from congrArg vi (f_127.2 13 (by decide)))]; exact oh_nat (fM_0_13 hT0) (by decide)) (by decide)), (by omega)⟩⟩, ⟨by rw [ht]; exact hP, hD⟩⟩, hS.F ht⟩) hS.2.2 dX7_statement_134
            · have u_138 := hq_134.2.2.2.1 c_137
              have u_139 := hq_134.2.2.2.2 c_137
              refine lv_aload_n hx hb dX7_statement_119 rfl (lv_at hl 1 rfl) ?_
              refine va_ldcS hx hb hown (hG.2.2.1 ("OneHeavyLoadModel", 212, "tare", 33) (List.mem_of_getElem? (i := 30) rfl)) dX7_statement_120 ?_
              refine lv_aload_n hx hb dX7_statement_122 rfl (lv_at hl 0 rfl) ?_
              refine lv_iconst (v := 2) hx hb dX7_statement_123 (by decide) ?_
              refine lv_iconst (v := 0) hx hb dX7_statement_124 (by decide) ?_
              refine lv_bipush (v := 99) hx hb dX7_statement_125 (by decide) ?_
              have : (gi (C_133 0) 7).toInt = (gi (C_125 0) 7).toInt := congrArg (fun z => (vi z).toInt) (f_135.2 7 (by decide))
              have : (gi (C_133 0) 13).toInt = (gi (C_125 0) 13).toInt := congrArg (fun z => (vi z).toInt) (f_135.2 13 (by decide))
              have : 0 ≤ (gi (C_133 0) 21).toInt ∧ (gi (C_133 0) 21).toInt ≤ 250 := fM_0_21 t_136
              have : 0 ≤ (gi (C_133 0) 7).toInt ∧ (gi (C_133 0) 7).toInt ≤ 250 := fM_0_7 t_136
              have : 0 ≤ (gi (C_133 0) 23).toInt ∧ (gi (C_133 0) 23).toInt ≤ 250 := fM_0_23 t_136
              have : 0 ≤ (gi (C_133 0) 13).toInt ∧ (gi (C_133 0) 13).toInt ≤ 5 := fM_0_13 t_136
              refine tm_V (As := [.ref (G (3 + 30)), .ref (a (64 + (gi (C 0) 13).toNatClampNeg)), .int 2, .int 0, .int 99]) (rest := []) ⟨hx, hb, hml, hown, htg⟩ (c_X7_told l D E G _ a C_133 n hn hT 30 (64 + (gi (C 0) 13).toNatClampNeg) (2 : Int32) (0 : Int32) (99 : Int32) (by decide) ⟨(lt_blk b_123 hn (by decide)), (by omega), 3, fun C h => (h.bwaggon b_123).1, (rg_in (rg_c (v := 2) (lo := 2) (hi := 2) (by decide)) (by decide)), fun C v h h1 h2 => (h.upwaggon b_123 (tA_upd (h.bwaggon b_123) (tA_stc (k := 2) (by decide) (rg_any _) (by decide))))⟩ (by omega)) (cwV 5 htg (oh_gV q_1234 q_1236 q_45 q_73 q_1237) rfl rfl rfl pdVX7_told ⟨Nat.le_of_ble_eq_true rfl, Nat.le_of_ble_eq_true rfl⟩) hK hP hD hG hS hA (va_recv hK hP (ci := 7) (q0 := 0) rfl (oh_wg (Nat.lt_of_lt_of_le (by decide) hn) (sM_0 hT))) rfl hl.1 rfl (Nat.le_of_ble_eq_true rfl) dX7_statement_127 ⟨Nat.le_of_ble_eq_true rfl, Nat.le_of_ble_eq_true rfl⟩ (fun r_140 C_141 H locs hq_142 hP hD hS => ?_)
              obtain ⟨hT, f_143, hq_142⟩ := hq_142
              have hF := fr_trk hF f_143 (inR_of (p := (64, 69)) (by decide) (by show 64 ≤ _; omega) (by show _ < 69; omega)) (by decide)
              refine W.widen (k := 0) (n := 0) (Nat.le_refl _) (Nat.le_refl _) ?_
              have t_144 := hT
              refine lv_if_ne (tgt := 135) hx hb dX7_statement_130 (by decide) (fun (c_145 : ¬ (r_140 = 0)) => ?_) (fun (c_145 : r_140 = 0) => ?_)
              · have u_146 := hq_142.2.2.2.1 c_145
                have u_147 := hq_142.2.2.2.2 c_145
                refine lv_aload_n hx hb dX7_statement_135 rfl (lv_at hl 1 rfl) ?_
                refine lv_dup hx hb dX7_statement_136 rfl ?_
                refine va_get (D := D) (ci := 7) (v := .int (gi (C 0) 13)) (C := RX7) (T := TX7) (N := 29) hx hb htg ig_7 hown hK hP 0 (oh_wg (Nat.lt_of_lt_of_le (by decide) hn) (sM_0 hT)) rfl 13 (by decide) (htg _ q_986) (fun _ h9 => h9) (oh_fv (c := C_141 0) (j := 13) rfl (Eq.trans (congrArg vi (f_143.2 13 (by decide))) (Eq.trans (congrArg vi (f_135.2 13 (by decide))) (congrArg vi (f_127.2 13 (by decide)))))) dX7_statement_137 ?_
                refine lv_iconst (v := 1) hx hb dX7_statement_140 (by decide) ?_
                refine lv_iadd hx hb dX7_statement_141 ?_
                refine th_put (Tp := TyM a E) (Rl := fr [(13, 14), (24, 48), (48, 64), (64, 69), (69, 74)] [9, 11, 13, 15, 21, 22, 23, 24, 25] C) (ci := 7) (v := .int ((gi (C 0) 13) + 1)) (ty := .int) (CC := RX7) (T := TX7) (N := 29) hx hb htg ig_7 tyX7 tyX7_ok nmX7 hown hK hP hD hS 0 (Nat.lt_of_lt_of_le (by decide) hn) (sM_0 hT) rfl 13 (by decide) (htg _ q_986) (fun _ h9 => h9) rfl (by decide +kernel) rfl rfl (Nat.le_of_ble_eq_true rfl) (hT.up 0 (by decide) ⟨rfl, (fM_0_7 hT), (fM_0_9 hT), (fM_0_11 hT), (rg_w (rg_add (lo := 1) (hi := 5) (rn_ltu (u' := 4) (Int32.not_le.mp c_66) (fM_0_13 hT0) (rg_c (v := 5) (lo := 5) (hi := 5) (by decide)) (by decide)) (rg_c (v := 1) (lo := 1) (hi := 1) (by decide)) (by decide)) (by decide)), (fM_0_15 hT), (fM_0_21 hT), (fM_0_23 hT)⟩) (fr_fd hF (sM_0 hT) (by decide)) dX7_statement_142 (fun C_148 H locs e_149 hT hF hP hD hS => ?_)
                have t_150 := hT
                refine lv_iconst (v := 1) hx hb dX7_statement_145 (by decide) ?_
                have : (gi (C_141 0) 7).toInt = (gi (C_133 0) 7).toInt := congrArg (fun z => (vi z).toInt) (f_143.2 7 (by decide))
                have : (gi (C_141 0) 13).toInt = (gi (C_133 0) 13).toInt := congrArg (fun z => (vi z).toInt) (f_143.2 13 (by decide))
                have : (gi (C_148 0) 21).toInt = (gi (C_141 0) 21).toInt := congrArg Int32.toInt (show gi (C_148 0) 21 = gi (C_141 0) 21 by rw [e_149]; rfl)
                have : (gi (C_148 0) 7).toInt = (gi (C_141 0) 7).toInt := congrArg Int32.toInt (show gi (C_148 0) 7 = gi (C_141 0) 7 by rw [e_149]; rfl)
                have : (gi (C_148 0) 23).toInt = (gi (C_141 0) 23).toInt := congrArg Int32.toInt (show gi (C_148 0) 23 = gi (C_141 0) 23 by rw [e_149]; rfl)
                have : (gi (C_148 0) 13).toInt = ((gi (C 0) 13) + 1).toInt := congrArg Int32.toInt (show gi (C_148 0) 13 = ((gi (C 0) 13) + 1) by rw [e_149]; rfl)
                have : ((gi (C 0) 13) + 1).toInt = (gi (C 0) 13).toInt + 1 := oh_incr (rn_ltu (u' := 4) (Int32.not_le.mp c_66) (fM_0_13 hT0) (rg_c (v := 5) (lo := 5) (hi := 5) (by decide)) (by decide)) (by decide)
                have : 0 ≤ (gi (C_141 0) 21).toInt ∧ (gi (C_141 0) 21).toInt ≤ 250 := fM_0_21 t_144
                have : 0 ≤ (gi (C_141 0) 7).toInt ∧ (gi (C_141 0) 7).toInt ≤ 250 := fM_0_7 t_144
                have : 0 ≤ (gi (C_141 0) 23).toInt ∧ (gi (C_141 0) 23).toInt ≤ 250 := fM_0_23 t_144
                have : 0 ≤ (gi (C_141 0) 13).toInt ∧ (gi (C_141 0) 13).toInt ≤ 5 := fM_0_13 t_144
                have : 0 ≤ (gi (C_148 0) 21).toInt ∧ (gi (C_148 0) 21).toInt ≤ 250 := fM_0_21 t_150
                have : 0 ≤ (gi (C_148 0) 7).toInt ∧ (gi (C_148 0) 7).toInt ≤ 250 := fM_0_7 t_150
                have : 0 ≤ (gi (C_148 0) 23).toInt ∧ (gi (C_148 0) 23).toInt ≤ 250 := fM_0_23 t_150
                have : 0 ≤ (gi (C_148 0) 13).toInt ∧ (gi (C_148 0) 13).toInt ≤ 5 := fM_0_13 t_150
                rw [hQ]
                exact W.zret (v := 1) (ty := .boolean) hx hb hr (by decide) (fun t ht hW => ⟨⟨1, C_148, rfl, ⟨hT, hF, ⟨(Or.inr rfl), ⟨(by omega), (by omega)⟩, (fun _ => (by omega)), (relW_inc (w := (gi (C 0) 13).toNatClampNeg) (relW_row (w := (gi (C 0) 13).toNatClampNeg) (relW_row (w := (gi (C 0) 13).toNatClampNeg) (relW_row (w := (gi (C 0) 13).toNatClampNeg) hR f_127 (oh_nat (fM_0_13 hT0) (by decide)) (by decide)) f_135 (by rw [(show gi (C_125 0) 13 = gi (C 0) 13 from congrArg vi (f_127.2 13 (by decide)))]; exact oh_nat (fM_0_13 hT0) (by decide)) (by decide)) f_143 (by rw [(Eq.trans (show gi (C_133 0) 13 = gi (C_125 0) 13 from congrArg vi (f_135.2 13 (by decide))) (show gi (C_125 0) 13 = gi (C 0) 13 from congrArg vi (f_127.2 13 (by decide))))]; exact oh_nat (fM_0_13 hT0) (by decide)) (by decide)) (by rw [(Eq.trans (show gi (C_141 0) 13 = gi (C_133 0) 13 from congrArg vi (f_143.2 13 (by decide))) (Eq.trans (show gi (C_133 0) 13 = gi (C_125 0) 13 from congrArg vi (f_135.2 13 (by decide))) (show gi (C_125 0) 13 = gi (C 0) 13 from congrArg vi (f_127.2 13 (by decide)))))]; exact oh_nat (fM_0_13 hT0) (by decide)) (fun k hk => th_un e_149 hk) (Eq.trans (congrArg Int32.toInt (show gi (C_148 0) 13 = (gi (C 0) 13) + 1 by rw [e_149]; rfl)) (by rw [(Eq.trans (show gi (C_141 0) 13 = gi (C_133 0) 13 from congrArg vi (f_143.2 13 (by decide))) (Eq.trans (show gi (C_133 0) 13 = gi (C_125 0) 13 from congrArg vi (f_135.2 13 (by decide))) (show gi (C_125 0) 13 = gi (C 0) 13 from congrArg vi (f_127.2 13 (by decide)))))]; exact oh_inc13 (fM_0_13 hT0))) (by rw [hq_142.2.2.1 _ (by decide), hq_134.2.2.1 _ (by decide)]; exact Int.le_trans (by decide) u_130) (by rw [hq_142.2.2.1 _ (by decide)]; exact Int.le_trans (by decide) u_138)), (by omega)⟩⟩, ⟨by rw [ht]; exact hP, hD⟩⟩, hS.F ht⟩) hS.2.2 dX7_statement_146
              · refine lv_iconst (v := 0) hx hb dX7_statement_133 (by decide) ?_
                have : (gi (C_141 0) 7).toInt = (gi (C_133 0) 7).toInt := congrArg (fun z => (vi z).toInt) (f_143.2 7 (by decide))
                have : (gi (C_141 0) 13).toInt = (gi (C_133 0) 13).toInt := congrArg (fun z => (vi z).toInt) (f_143.2 13 (by decide))
                have : 0 ≤ (gi (C_141 0) 21).toInt ∧ (gi (C_141 0) 21).toInt ≤ 250 := fM_0_21 t_144
                have : 0 ≤ (gi (C_141 0) 7).toInt ∧ (gi (C_141 0) 7).toInt ≤ 250 := fM_0_7 t_144
                have : 0 ≤ (gi (C_141 0) 23).toInt ∧ (gi (C_141 0) 23).toInt ≤ 250 := fM_0_23 t_144
                have : 0 ≤ (gi (C_141 0) 13).toInt ∧ (gi (C_141 0) 13).toInt ≤ 5 := fM_0_13 t_144
                rw [hQ]
                exact W.zret (v := 0) (ty := .boolean) hx hb hr (by decide) (fun t ht hW => ⟨⟨0, C_141, rfl, ⟨hT, hF, ⟨(Or.inl rfl), ⟨(by omega), hq_142.2.1.2⟩, (fun h9 => absurd rfl h9), (relW_row (w := (gi (C 0) 13).toNatClampNeg) (relW_row (w := (gi (C 0) 13).toNatClampNeg) (relW_row (w := (gi (C 0) 13).toNatClampNeg) hR f_127 (oh_nat (fM_0_13 hT0) (by decide)) (by decide)) f_135 (by rw [(show gi (C_125 0) 13 = gi (C 0) 13 from congrArg vi (f_127.2 13 (by decide)))]; exact oh_nat (fM_0_13 hT0) (by decide)) (by decide)) f_143 (by rw [(Eq.trans (show gi (C_133 0) 13 = gi (C_125 0) 13 from congrArg vi (f_135.2 13 (by decide))) (show gi (C_125 0) 13 = gi (C 0) 13 from congrArg vi (f_127.2 13 (by decide))))]; exact oh_nat (fM_0_13 hT0) (by decide)) (by decide)), (by omega)⟩⟩, ⟨by rw [ht]; exact hP, hD⟩⟩, hS.F ht⟩) hS.2.2 dX7_statement_134
    · have u_151 := hq_5.2 c_6
      refine lv_aload_n hx hb dX7_statement_41 rfl (lv_at hl 0 rfl) ?_
      refine va_get (D := D) (ci := 7) (v := .int (gi (C 0) 11)) (C := RX7) (T := TX7) (N := 29) hx hb htg ig_7 hown hK hP 0 (oh_wg (Nat.lt_of_lt_of_le (by decide) hn) (sM_0 hT)) rfl 11 (by decide) (htg _ q_984) (fun _ h9 => h9) rfl dX7_statement_42 ?_
      refine lv_bipush (v := 16) hx hb dX7_statement_45 (by decide) ?_
      refine lv_icmp_ge (tgt := 64) hx hb dX7_statement_47 (by decide) (fun (c_152 : (16 : Int32) ≤ (gi (C 0) 11)) => ?_) (fun (c_152 : ¬ ((16 : Int32) ≤ (gi (C 0) 11))) => ?_)
      · refine lv_aload_n hx hb dX7_statement_64 rfl (lv_at hl 0 rfl) ?_
        refine va_ldcS hx hb hown (hG.2.2.1 ("OneHeavyLoadModel", 209, "waggon", 31) (List.mem_of_getElem? (i := 28) rfl)) dX7_statement_65 ?_
        refine tq_V (As := [.ref (G (3 + 28))]) (rest := []) (ws := (oh_W n a C)) ⟨hx, hb, hml, hown, htg⟩ (c_X7_isWord l D E G a C n hn hT 28 (by decide)) (cwV 1 htg (oh_gV q_1215 q_1217 q_41 q_73 q_1218) rfl rfl rfl pdVX7_isWord ⟨Nat.le_of_ble_eq_true rfl, Nat.le_of_ble_eq_true rfl⟩) hK hP hG hS (va_recv hK hP (ci := 7) (q0 := 0) rfl (oh_wg (Nat.lt_of_lt_of_le (by decide) hn) (sM_0 hT))) rfl hl.1 rfl (Nat.le_of_ble_eq_true rfl) dX7_statement_67 ⟨Nat.le_of_ble_eq_true rfl, Nat.le_of_ble_eq_true rfl⟩ (fun r_153 hq_154 => ?_)
        refine lv_if_eq (tgt := 147) hx hb dX7_statement_70 (by decide) (fun (c_155 : r_153 = 0) => ?_) (fun (c_155 : ¬ (r_153 = 0)) => ?_)
        · refine lv_aload_n hx hb dX7_statement_147 rfl (lv_at hl 0 rfl) ?_
          refine va_ldcS hx hb hown (hG.2.2.1 ("OneHeavyLoadModel", 214, "part", 34) (List.mem_of_getElem? (i := 31) rfl)) dX7_statement_148 ?_
          refine tq_V (As := [.ref (G (3 + 31))]) (rest := []) (ws := (oh_W n a C)) ⟨hx, hb, hml, hown, htg⟩ (c_X7_isWord l D E G a C n hn hT 31 (by decide)) (cwV 1 htg (oh_gV q_1215 q_1217 q_41 q_73 q_1218) rfl rfl rfl pdVX7_isWord ⟨Nat.le_of_ble_eq_true rfl, Nat.le_of_ble_eq_true rfl⟩) hK hP hG hS (va_recv hK hP (ci := 7) (q0 := 0) rfl (oh_wg (Nat.lt_of_lt_of_le (by decide) hn) (sM_0 hT))) rfl hl.1 rfl (Nat.le_of_ble_eq_true rfl) dX7_statement_150 ⟨Nat.le_of_ble_eq_true rfl, Nat.le_of_ble_eq_true rfl⟩ (fun r_156 hq_157 => ?_)
          refine lv_if_eq (tgt := 220) hx hb dX7_statement_153 (by decide) (fun (c_158 : r_156 = 0) => ?_) (fun (c_158 : ¬ (r_156 = 0)) => ?_)
          · refine lv_aload_n hx hb dX7_statement_220 rfl (lv_at hl 0 rfl) ?_
            refine va_ldcS hx hb hown (hG.2.2.1 ("OneHeavyLoadModel", 215, "load", 35) (List.mem_of_getElem? (i := 32) rfl)) dX7_statement_221 ?_
            refine tq_V (As := [.ref (G (3 + 32))]) (rest := []) (ws := (oh_W n a C)) ⟨hx, hb, hml, hown, htg⟩ (c_X7_isWord l D E G a C n hn hT 32 (by decide)) (cwV 1 htg (oh_gV q_1215 q_1217 q_41 q_73 q_1218) rfl rfl rfl pdVX7_isWord ⟨Nat.le_of_ble_eq_true rfl, Nat.le_of_ble_eq_true rfl⟩) hK hP hG hS (va_recv hK hP (ci := 7) (q0 := 0) rfl (oh_wg (Nat.lt_of_lt_of_le (by decide) hn) (sM_0 hT))) rfl hl.1 rfl (Nat.le_of_ble_eq_true rfl) dX7_statement_223 ⟨Nat.le_of_ble_eq_true rfl, Nat.le_of_ble_eq_true rfl⟩ (fun r_159 hq_160 => ?_)
            refine lv_if_eq (tgt := 245) hx hb dX7_statement_226 (by decide) (fun (c_161 : r_159 = 0) => ?_) (fun (c_161 : ¬ (r_159 = 0)) => ?_)
            · refine lv_aload_n hx hb dX7_statement_245 rfl (lv_at hl 0 rfl) ?_
              refine va_ldcS hx hb hown (hG.2.2.1 ("OneHeavyLoadModel", 217, "mile", 36) (List.mem_of_getElem? (i := 33) rfl)) dX7_statement_246 ?_
              refine lv_aload_n hx hb dX7_statement_248 rfl (lv_at hl 0 rfl) ?_
              refine va_get (D := D) (ci := 7) (v := .ref (a 13)) (C := RX7) (T := TX7) (N := 29) hx hb htg ig_7 hown hK hP 0 (oh_wg (Nat.lt_of_lt_of_le (by decide) hn) (sM_0 hT)) rfl 17 (by decide) (htg _ q_990) (fun _ h9 => h9) rfl dX7_statement_249 ?_
              refine lv_iconst (v := 1) hx hb dX7_statement_252 (by decide) ?_
              refine lv_iconst (v := 0) hx hb dX7_statement_253 (by decide) ?_
              refine lv_bipush (v := 99) hx hb dX7_statement_254 (by decide) ?_
              have : 0 ≤ (gi (C 0) 21).toInt ∧ (gi (C 0) 21).toInt ≤ 250 := fM_0_21 hT0
              have : 0 ≤ (gi (C 0) 7).toInt ∧ (gi (C 0) 7).toInt ≤ 250 := fM_0_7 hT0
              have : 0 ≤ (gi (C 0) 23).toInt ∧ (gi (C 0) 23).toInt ≤ 250 := fM_0_23 hT0
              have : 0 ≤ (gi (C 0) 13).toInt ∧ (gi (C 0) 13).toInt ≤ 5 := fM_0_13 hT0
              have : (16 : Int32).toInt = 16 := rfl
              have : (16 : Int32).toInt ≤ (gi (C 0) 11).toInt := Int32.le_iff_toInt_le.mp c_152
              refine tm_V (As := [.ref (G (3 + 33)), .ref (a 13), .int 1, .int 0, .int 99]) (rest := []) ⟨hx, hb, hml, hown, htg⟩ (c_X7_told l D E G _ a C n hn hT 33 13 (1 : Int32) (0 : Int32) (99 : Int32) (by decide) ⟨(Nat.lt_of_lt_of_le (by decide) hn), (by decide), 3, fun C h => (sM_13 h), (rg_in (rg_c (v := 1) (lo := 1) (hi := 1) (by decide)) (by decide)), fun C v h h1 h2 => (h.up 13 (by decide) (tA_upd (tM_13 h) tA_any))⟩ (by omega)) (cwV 5 htg (oh_gV q_1234 q_1236 q_45 q_73 q_1237) rfl rfl rfl pdVX7_told ⟨Nat.le_of_ble_eq_true rfl, Nat.le_of_ble_eq_true rfl⟩) hK hP hD hG hS hA (va_recv hK hP (ci := 7) (q0 := 0) rfl (oh_wg (Nat.lt_of_lt_of_le (by decide) hn) (sM_0 hT))) rfl hl.1 rfl (Nat.le_of_ble_eq_true rfl) dX7_statement_256 ⟨Nat.le_of_ble_eq_true rfl, Nat.le_of_ble_eq_true rfl⟩ (fun r_162 C_163 H locs hq_164 hP hD hS => ?_)
              obtain ⟨hT, f_165, hq_164⟩ := hq_164
              have hF := fr_trk hF f_165 (by decide) (by decide)
              refine W.widen (k := 0) (n := 0) (Nat.le_refl _) (Nat.le_refl _) ?_
              have t_166 := hT
              have : (gi (C_163 0) 7).toInt = (gi (C 0) 7).toInt := congrArg (fun z => (vi z).toInt) (f_165.2 7 (by decide))
              have : (gi (C_163 0) 13).toInt = (gi (C 0) 13).toInt := congrArg (fun z => (vi z).toInt) (f_165.2 13 (by decide))
              have : 0 ≤ (gi (C_163 0) 21).toInt ∧ (gi (C_163 0) 21).toInt ≤ 250 := fM_0_21 t_166
              have : 0 ≤ (gi (C_163 0) 7).toInt ∧ (gi (C_163 0) 7).toInt ≤ 250 := fM_0_7 t_166
              have : 0 ≤ (gi (C_163 0) 23).toInt ∧ (gi (C_163 0) 23).toInt ≤ 250 := fM_0_23 t_166
              have : 0 ≤ (gi (C_163 0) 13).toInt ∧ (gi (C_163 0) 13).toInt ≤ 5 := fM_0_13 t_166
              rw [hQ]
              exact W.zret (v := r_162) (ty := .boolean) hx hb hr (oh_nb hq_164.1) (fun t ht hW => ⟨⟨r_162, C_163, rfl, ⟨hT, hF, ⟨hq_164.1, ⟨hq_164.2.1.1, hq_164.2.1.2⟩, (fun h9 => (hq_164.2.2.2.2 h9)), (RelW.fr hR (fr_trk (mc := [(13, 14)]) (mf := [21, 22, 23, 24, 25]) fr_rf f_165 (by decide) (by decide)) (by decide)), (by omega)⟩⟩, ⟨by rw [ht]; exact hP, hD⟩⟩, hS.F ht⟩) hS.2.2 dX7_statement_259
            · have u_167 := hq_160.2 c_161
              refine lv_aload_n hx hb dX7_statement_229 rfl (lv_at hl 0 rfl) ?_
              refine va_ldcS hx hb hown (hG.2.2.1 ("OneHeavyLoadModel", 215, "load", 35) (List.mem_of_getElem? (i := 32) rfl)) dX7_statement_230 ?_
              refine lv_aload_n hx hb dX7_statement_232 rfl (lv_at hl 0 rfl) ?_
              refine va_get (D := D) (ci := 7) (v := .ref (a 13)) (C := RX7) (T := TX7) (N := 29) hx hb htg ig_7 hown hK hP 0 (oh_wg (Nat.lt_of_lt_of_le (by decide) hn) (sM_0 hT)) rfl 17 (by decide) (htg _ q_990) (fun _ h9 => h9) rfl dX7_statement_233 ?_
              refine lv_iconst (v := 0) hx hb dX7_statement_236 (by decide) ?_
              refine lv_iconst (v := 0) hx hb dX7_statement_237 (by decide) ?_
              refine lv_sipush (v := 900) hx hb dX7_statement_238 (by decide) ?_
              have : 0 ≤ (gi (C 0) 21).toInt ∧ (gi (C 0) 21).toInt ≤ 250 := fM_0_21 hT0
              have : 0 ≤ (gi (C 0) 7).toInt ∧ (gi (C 0) 7).toInt ≤ 250 := fM_0_7 hT0
              have : 0 ≤ (gi (C 0) 23).toInt ∧ (gi (C 0) 23).toInt ≤ 250 := fM_0_23 hT0
              have : 0 ≤ (gi (C 0) 13).toInt ∧ (gi (C 0) 13).toInt ≤ 5 := fM_0_13 hT0
              have : (16 : Int32).toInt = 16 := rfl
              have : (16 : Int32).toInt ≤ (gi (C 0) 11).toInt := Int32.le_iff_toInt_le.mp c_152
              refine tm_V (As := [.ref (G (3 + 32)), .ref (a 13), .int 0, .int 0, .int 900]) (rest := []) ⟨hx, hb, hml, hown, htg⟩ (c_X7_told l D E G _ a C n hn hT 32 13 (0 : Int32) (0 : Int32) (900 : Int32) (by decide) ⟨(Nat.lt_of_lt_of_le (by decide) hn), (by decide), 3, fun C h => (sM_13 h), (rg_in (rg_c (v := 0) (lo := 0) (hi := 0) (by decide)) (by decide)), fun C v h h1 h2 => (h.up 13 (by decide) (tA_upd (tM_13 h) tA_any))⟩ (by omega)) (cwV 5 htg (oh_gV q_1234 q_1236 q_45 q_73 q_1237) rfl rfl rfl pdVX7_told ⟨Nat.le_of_ble_eq_true rfl, Nat.le_of_ble_eq_true rfl⟩) hK hP hD hG hS hA (va_recv hK hP (ci := 7) (q0 := 0) rfl (oh_wg (Nat.lt_of_lt_of_le (by decide) hn) (sM_0 hT))) rfl hl.1 rfl (Nat.le_of_ble_eq_true rfl) dX7_statement_241 ⟨Nat.le_of_ble_eq_true rfl, Nat.le_of_ble_eq_true rfl⟩ (fun r_168 C_169 H locs hq_170 hP hD hS => ?_)
              obtain ⟨hT, f_171, hq_170⟩ := hq_170
              have hF := fr_trk hF f_171 (by decide) (by decide)
              refine W.widen (k := 0) (n := 0) (Nat.le_refl _) (Nat.le_refl _) ?_
              have t_172 := hT
              have : (gi (C_169 0) 7).toInt = (gi (C 0) 7).toInt := congrArg (fun z => (vi z).toInt) (f_171.2 7 (by decide))
              have : (gi (C_169 0) 13).toInt = (gi (C 0) 13).toInt := congrArg (fun z => (vi z).toInt) (f_171.2 13 (by decide))
              have : 0 ≤ (gi (C_169 0) 21).toInt ∧ (gi (C_169 0) 21).toInt ≤ 250 := fM_0_21 t_172
              have : 0 ≤ (gi (C_169 0) 7).toInt ∧ (gi (C_169 0) 7).toInt ≤ 250 := fM_0_7 t_172
              have : 0 ≤ (gi (C_169 0) 23).toInt ∧ (gi (C_169 0) 23).toInt ≤ 250 := fM_0_23 t_172
              have : 0 ≤ (gi (C_169 0) 13).toInt ∧ (gi (C_169 0) 13).toInt ≤ 5 := fM_0_13 t_172
              rw [hQ]
              exact W.zret (v := r_168) (ty := .boolean) hx hb hr (oh_nb hq_170.1) (fun t ht hW => ⟨⟨r_168, C_169, rfl, ⟨hT, hF, ⟨hq_170.1, ⟨hq_170.2.1.1, hq_170.2.1.2⟩, (fun h9 => (hq_170.2.2.2.2 h9)), (RelW.fr hR (fr_trk (mc := [(13, 14)]) (mf := [21, 22, 23, 24, 25]) fr_rf f_171 (by decide) (by decide)) (by decide)), (by omega)⟩⟩, ⟨by rw [ht]; exact hP, hD⟩⟩, hS.F ht⟩) hS.2.2 dX7_statement_244
          · have u_173 := hq_157.2 c_158
            refine lv_aload_n hx hb dX7_statement_156 rfl (lv_at hl 0 rfl) ?_
            refine va_get (D := D) (ci := 7) (v := .int (gi (C 0) 15)) (C := RX7) (T := TX7) (N := 29) hx hb htg ig_7 hown hK hP 0 (oh_wg (Nat.lt_of_lt_of_le (by decide) hn) (sM_0 hT)) rfl 15 (by decide) (htg _ q_988) (fun _ h9 => h9) rfl dX7_statement_157 ?_
            refine lv_iconst (v := 5) hx hb dX7_statement_160 (by decide) ?_
            refine lv_icmp_ge (tgt := 220) hx hb dX7_statement_161 (by decide) (fun (c_174 : (5 : Int32) ≤ (gi (C 0) 15)) => ?_) (fun (c_174 : ¬ ((5 : Int32) ≤ (gi (C 0) 15))) => ?_)
            · refine lv_aload_n hx hb dX7_statement_220 rfl (lv_at hl 0 rfl) ?_
              refine va_ldcS hx hb hown (hG.2.2.1 ("OneHeavyLoadModel", 215, "load", 35) (List.mem_of_getElem? (i := 32) rfl)) dX7_statement_221 ?_
              refine tq_V (As := [.ref (G (3 + 32))]) (rest := []) (ws := (oh_W n a C)) ⟨hx, hb, hml, hown, htg⟩ (c_X7_isWord l D E G a C n hn hT 32 (by decide)) (cwV 1 htg (oh_gV q_1215 q_1217 q_41 q_73 q_1218) rfl rfl rfl pdVX7_isWord ⟨Nat.le_of_ble_eq_true rfl, Nat.le_of_ble_eq_true rfl⟩) hK hP hG hS (va_recv hK hP (ci := 7) (q0 := 0) rfl (oh_wg (Nat.lt_of_lt_of_le (by decide) hn) (sM_0 hT))) rfl hl.1 rfl (Nat.le_of_ble_eq_true rfl) dX7_statement_223 ⟨Nat.le_of_ble_eq_true rfl, Nat.le_of_ble_eq_true rfl⟩ (fun r_175 hq_176 => ?_)
              refine lv_if_eq (tgt := 245) hx hb dX7_statement_226 (by decide) (fun (c_177 : r_175 = 0) => ?_) (fun (c_177 : ¬ (r_175 = 0)) => ?_)
              · refine lv_aload_n hx hb dX7_statement_245 rfl (lv_at hl 0 rfl) ?_
                refine va_ldcS hx hb hown (hG.2.2.1 ("OneHeavyLoadModel", 217, "mile", 36) (List.mem_of_getElem? (i := 33) rfl)) dX7_statement_246 ?_
                refine lv_aload_n hx hb dX7_statement_248 rfl (lv_at hl 0 rfl) ?_
                refine va_get (D := D) (ci := 7) (v := .ref (a 13)) (C := RX7) (T := TX7) (N := 29) hx hb htg ig_7 hown hK hP 0 (oh_wg (Nat.lt_of_lt_of_le (by decide) hn) (sM_0 hT)) rfl 17 (by decide) (htg _ q_990) (fun _ h9 => h9) rfl dX7_statement_249 ?_
                refine lv_iconst (v := 1) hx hb dX7_statement_252 (by decide) ?_
                refine lv_iconst (v := 0) hx hb dX7_statement_253 (by decide) ?_
                refine lv_bipush (v := 99) hx hb dX7_statement_254 (by decide) ?_
                have : 0 ≤ (gi (C 0) 21).toInt ∧ (gi (C 0) 21).toInt ≤ 250 := fM_0_21 hT0
                have : 0 ≤ (gi (C 0) 7).toInt ∧ (gi (C 0) 7).toInt ≤ 250 := fM_0_7 hT0
                have : 0 ≤ (gi (C 0) 23).toInt ∧ (gi (C 0) 23).toInt ≤ 250 := fM_0_23 hT0
                have : 0 ≤ (gi (C 0) 13).toInt ∧ (gi (C 0) 13).toInt ≤ 5 := fM_0_13 hT0
                have : (16 : Int32).toInt = 16 := rfl
                have : (16 : Int32).toInt ≤ (gi (C 0) 11).toInt := Int32.le_iff_toInt_le.mp c_152
                have : (5 : Int32).toInt = 5 := rfl
                have : (5 : Int32).toInt ≤ (gi (C 0) 15).toInt := Int32.le_iff_toInt_le.mp c_174
                refine tm_V (As := [.ref (G (3 + 33)), .ref (a 13), .int 1, .int 0, .int 99]) (rest := []) ⟨hx, hb, hml, hown, htg⟩ (c_X7_told l D E G _ a C n hn hT 33 13 (1 : Int32) (0 : Int32) (99 : Int32) (by decide) ⟨(Nat.lt_of_lt_of_le (by decide) hn), (by decide), 3, fun C h => (sM_13 h), (rg_in (rg_c (v := 1) (lo := 1) (hi := 1) (by decide)) (by decide)), fun C v h h1 h2 => (h.up 13 (by decide) (tA_upd (tM_13 h) tA_any))⟩ (by omega)) (cwV 5 htg (oh_gV q_1234 q_1236 q_45 q_73 q_1237) rfl rfl rfl pdVX7_told ⟨Nat.le_of_ble_eq_true rfl, Nat.le_of_ble_eq_true rfl⟩) hK hP hD hG hS hA (va_recv hK hP (ci := 7) (q0 := 0) rfl (oh_wg (Nat.lt_of_lt_of_le (by decide) hn) (sM_0 hT))) rfl hl.1 rfl (Nat.le_of_ble_eq_true rfl) dX7_statement_256 ⟨Nat.le_of_ble_eq_true rfl, Nat.le_of_ble_eq_true rfl⟩ (fun r_178 C_179 H locs hq_180 hP hD hS => ?_)
                obtain ⟨hT, f_181, hq_180⟩ := hq_180
                have hF := fr_trk hF f_181 (by decide) (by decide)
                refine W.widen (k := 0) (n := 0) (Nat.le_refl _) (Nat.le_refl _) ?_
                have t_182 := hT
                have : (gi (C_179 0) 7).toInt = (gi (C 0) 7).toInt := congrArg (fun z => (vi z).toInt) (f_181.2 7 (by decide))
                have : (gi (C_179 0) 13).toInt = (gi (C 0) 13).toInt := congrArg (fun z => (vi z).toInt) (f_181.2 13 (by decide))
                have : 0 ≤ (gi (C_179 0) 21).toInt ∧ (gi (C_179 0) 21).toInt ≤ 250 := fM_0_21 t_182
                have : 0 ≤ (gi (C_179 0) 7).toInt ∧ (gi (C_179 0) 7).toInt ≤ 250 := fM_0_7 t_182
                have : 0 ≤ (gi (C_179 0) 23).toInt ∧ (gi (C_179 0) 23).toInt ≤ 250 := fM_0_23 t_182
                have : 0 ≤ (gi (C_179 0) 13).toInt ∧ (gi (C_179 0) 13).toInt ≤ 5 := fM_0_13 t_182
                rw [hQ]
                exact W.zret (v := r_178) (ty := .boolean) hx hb hr (oh_nb hq_180.1) (fun t ht hW => ⟨⟨r_178, C_179, rfl, ⟨hT, hF, ⟨hq_180.1, ⟨hq_180.2.1.1, hq_180.2.1.2⟩, (fun h9 => (hq_180.2.2.2.2 h9)), (RelW.fr hR (fr_trk (mc := [(13, 14)]) (mf := [21, 22, 23, 24, 25]) fr_rf f_181 (by decide) (by decide)) (by decide)), (by omega)⟩⟩, ⟨by rw [ht]; exact hP, hD⟩⟩, hS.F ht⟩) hS.2.2 dX7_statement_259
              · have u_183 := hq_176.2 c_177
                refine lv_aload_n hx hb dX7_statement_229 rfl (lv_at hl 0 rfl) ?_
                refine va_ldcS hx hb hown (hG.2.2.1 ("OneHeavyLoadModel", 215, "load", 35) (List.mem_of_getElem? (i := 32) rfl)) dX7_statement_230 ?_
                refine lv_aload_n hx hb dX7_statement_232 rfl (lv_at hl 0 rfl) ?_
                refine va_get (D := D) (ci := 7) (v := .ref (a 13)) (C := RX7) (T := TX7) (N := 29) hx hb htg ig_7 hown hK hP 0 (oh_wg (Nat.lt_of_lt_of_le (by decide) hn) (sM_0 hT)) rfl 17 (by decide) (htg _ q_990) (fun _ h9 => h9) rfl dX7_statement_233 ?_
                refine lv_iconst (v := 0) hx hb dX7_statement_236 (by decide) ?_
                refine lv_iconst (v := 0) hx hb dX7_statement_237 (by decide) ?_
                refine lv_sipush (v := 900) hx hb dX7_statement_238 (by decide) ?_
                have : 0 ≤ (gi (C 0) 21).toInt ∧ (gi (C 0) 21).toInt ≤ 250 := fM_0_21 hT0
                have : 0 ≤ (gi (C 0) 7).toInt ∧ (gi (C 0) 7).toInt ≤ 250 := fM_0_7 hT0
                have : 0 ≤ (gi (C 0) 23).toInt ∧ (gi (C 0) 23).toInt ≤ 250 := fM_0_23 hT0
                have : 0 ≤ (gi (C 0) 13).toInt ∧ (gi (C 0) 13).toInt ≤ 5 := fM_0_13 hT0
                have : (16 : Int32).toInt = 16 := rfl
                have : (16 : Int32).toInt ≤ (gi (C 0) 11).toInt := Int32.le_iff_toInt_le.mp c_152
                have : (5 : Int32).toInt = 5 := rfl
                have : (5 : Int32).toInt ≤ (gi (C 0) 15).toInt := Int32.le_iff_toInt_le.mp c_174
                refine tm_V (As := [.ref (G (3 + 32)), .ref (a 13), .int 0, .int 0, .int 900]) (rest := []) ⟨hx, hb, hml, hown, htg⟩ (c_X7_told l D E G _ a C n hn hT 32 13 (0 : Int32) (0 : Int32) (900 : Int32) (by decide) ⟨(Nat.lt_of_lt_of_le (by decide) hn), (by decide), 3, fun C h => (sM_13 h), (rg_in (rg_c (v := 0) (lo := 0) (hi := 0) (by decide)) (by decide)), fun C v h h1 h2 => (h.up 13 (by decide) (tA_upd (tM_13 h) tA_any))⟩ (by omega)) (cwV 5 htg (oh_gV q_1234 q_1236 q_45 q_73 q_1237) rfl rfl rfl pdVX7_told ⟨Nat.le_of_ble_eq_true rfl, Nat.le_of_ble_eq_true rfl⟩) hK hP hD hG hS hA (va_recv hK hP (ci := 7) (q0 := 0) rfl (oh_wg (Nat.lt_of_lt_of_le (by decide) hn) (sM_0 hT))) rfl hl.1 rfl (Nat.le_of_ble_eq_true rfl) dX7_statement_241 ⟨Nat.le_of_ble_eq_true rfl, Nat.le_of_ble_eq_true rfl⟩ (fun r_184 C_185 H locs hq_186 hP hD hS => ?_)
                obtain ⟨hT, f_187, hq_186⟩ := hq_186
                have hF := fr_trk hF f_187 (by decide) (by decide)
                refine W.widen (k := 0) (n := 0) (Nat.le_refl _) (Nat.le_refl _) ?_
                have t_188 := hT
                have : (gi (C_185 0) 7).toInt = (gi (C 0) 7).toInt := congrArg (fun z => (vi z).toInt) (f_187.2 7 (by decide))
                have : (gi (C_185 0) 13).toInt = (gi (C 0) 13).toInt := congrArg (fun z => (vi z).toInt) (f_187.2 13 (by decide))
                have : 0 ≤ (gi (C_185 0) 21).toInt ∧ (gi (C_185 0) 21).toInt ≤ 250 := fM_0_21 t_188
                have : 0 ≤ (gi (C_185 0) 7).toInt ∧ (gi (C_185 0) 7).toInt ≤ 250 := fM_0_7 t_188
                have : 0 ≤ (gi (C_185 0) 23).toInt ∧ (gi (C_185 0) 23).toInt ≤ 250 := fM_0_23 t_188
                have : 0 ≤ (gi (C_185 0) 13).toInt ∧ (gi (C_185 0) 13).toInt ≤ 5 := fM_0_13 t_188
                rw [hQ]
                exact W.zret (v := r_184) (ty := .boolean) hx hb hr (oh_nb hq_186.1) (fun t ht hW => ⟨⟨r_184, C_185, rfl, ⟨hT, hF, ⟨hq_186.1, ⟨hq_186.2.1.1, hq_186.2.1.2⟩, (fun h9 => (hq_186.2.2.2.2 h9)), (RelW.fr hR (fr_trk (mc := [(13, 14)]) (mf := [21, 22, 23, 24, 25]) fr_rf f_187 (by decide) (by decide)) (by decide)), (by omega)⟩⟩, ⟨by rw [ht]; exact hP, hD⟩⟩, hS.F ht⟩) hS.2.2 dX7_statement_244
            · refine lv_aload_n hx hb dX7_statement_164 rfl (lv_at hl 0 rfl) ?_
              refine va_ldcS hx hb hown (hG.2.2.1 ("OneHeavyLoadModel", 214, "part", 34) (List.mem_of_getElem? (i := 31) rfl)) dX7_statement_165 ?_
              refine lv_aload_n hx hb dX7_statement_167 rfl (lv_at hl 0 rfl) ?_
              refine va_get (D := D) (ci := 7) (v := .ref (a 12)) (C := RX7) (T := TX7) (N := 29) hx hb htg ig_7 hown hK hP 0 (oh_wg (Nat.lt_of_lt_of_le (by decide) hn) (sM_0 hT)) rfl 16 (by decide) (htg _ q_989) (fun _ h9 => h9) rfl dX7_statement_168 ?_
              refine lv_aload_n hx hb dX7_statement_171 rfl (lv_at hl 0 rfl) ?_
              refine va_get (D := D) (ci := 7) (v := .int (gi (C 0) 15)) (C := RX7) (T := TX7) (N := 29) hx hb htg ig_7 hown hK hP 0 (oh_wg (Nat.lt_of_lt_of_le (by decide) hn) (sM_0 hT)) rfl 15 (by decide) (htg _ q_988) (fun _ h9 => h9) rfl dX7_statement_172 ?_
              have n_189 : vp_in (gi (C 0) 15) 5 := (rg_in (rn_ltu (u' := 4) (Int32.not_le.mp c_174) (fM_0_15 hT0) (rg_c (v := 5) (lo := 5) (hi := 5) (by decide)) (by decide)) (by decide))
              have b_190 : (gi (C 0) 15).toNatClampNeg < 5 := vp_lt n_189
              refine th_aald hx hb hK hP 12 2 (Nat.lt_of_lt_of_le (by decide) hn) (sM_12 hT) rfl n_189 dX7_statement_175 ?_
              refine lv_iconst (v := 0) hx hb dX7_statement_176 (by decide) ?_
              refine lv_iconst (v := 1) hx hb dX7_statement_177 (by decide) ?_
              refine lv_bipush (v := 99) hx hb dX7_statement_178 (by decide) ?_
              have : 0 ≤ (gi (C 0) 21).toInt ∧ (gi (C 0) 21).toInt ≤ 250 := fM_0_21 hT0
              have : 0 ≤ (gi (C 0) 7).toInt ∧ (gi (C 0) 7).toInt ≤ 250 := fM_0_7 hT0
              have : 0 ≤ (gi (C 0) 23).toInt ∧ (gi (C 0) 23).toInt ≤ 250 := fM_0_23 hT0
              have : 0 ≤ (gi (C 0) 13).toInt ∧ (gi (C 0) 13).toInt ≤ 5 := fM_0_13 hT0
              have : (16 : Int32).toInt = 16 := rfl
              have : (16 : Int32).toInt ≤ (gi (C 0) 11).toInt := Int32.le_iff_toInt_le.mp c_152
              have : (5 : Int32).toInt = 5 := rfl
              have : (gi (C 0) 15).toInt < (5 : Int32).toInt := Int32.lt_iff_toInt_lt.mp (Int32.not_le.mp c_174)
              refine tm_V (As := [.ref (G (3 + 31)), .ref (a (69 + (gi (C 0) 15).toNatClampNeg)), .int 0, .int 1, .int 99]) (rest := []) ⟨hx, hb, hml, hown, htg⟩ (c_X7_told l D E G _ a C n hn hT 31 (69 + (gi (C 0) 15).toNatClampNeg) (0 : Int32) (1 : Int32) (99 : Int32) (by decide) ⟨(lt_blk b_190 hn (by decide)), (by omega), 2, fun C h => (h.bpart b_190).1, (rg_in (rg_c (v := 0) (lo := 0) (hi := 0) (by decide)) (by decide)), fun C v h h1 h2 => (h.uppart b_190 (tA_upd (h.bpart b_190) tA_any))⟩ (by omega)) (cwV 5 htg (oh_gV q_1234 q_1236 q_45 q_73 q_1237) rfl rfl rfl pdVX7_told ⟨Nat.le_of_ble_eq_true rfl, Nat.le_of_ble_eq_true rfl⟩) hK hP hD hG hS hA (va_recv hK hP (ci := 7) (q0 := 0) rfl (oh_wg (Nat.lt_of_lt_of_le (by decide) hn) (sM_0 hT))) rfl hl.1 rfl (Nat.le_of_ble_eq_true rfl) dX7_statement_180 ⟨Nat.le_of_ble_eq_true rfl, Nat.le_of_ble_eq_true rfl⟩ (fun r_191 C_192 H locs hq_193 hP hD hS => ?_)
              obtain ⟨hT, f_194, hq_193⟩ := hq_193
              have hF := fr_trk hF f_194 (inR_of (p := (69, 74)) (by decide) (by show 69 ≤ _; omega) (by show _ < 74; omega)) (by decide)
              refine W.widen (k := 0) (n := 0) (Nat.le_refl _) (Nat.le_refl _) ?_
              have t_195 := hT
              refine lv_if_eq (tgt := 206) hx hb dX7_statement_183 (by decide) (fun (c_196 : r_191 = 0) => ?_) (fun (c_196 : ¬ (r_191 = 0)) => ?_)
              · refine lv_iconst (v := 0) hx hb dX7_statement_206 (by decide) ?_
                have : (gi (C_192 0) 7).toInt = (gi (C 0) 7).toInt := congrArg (fun z => (vi z).toInt) (f_194.2 7 (by decide))
                have : (gi (C_192 0) 13).toInt = (gi (C 0) 13).toInt := congrArg (fun z => (vi z).toInt) (f_194.2 13 (by decide))
                have : 0 ≤ (gi (C_192 0) 21).toInt ∧ (gi (C_192 0) 21).toInt ≤ 250 := fM_0_21 t_195
                have : 0 ≤ (gi (C_192 0) 7).toInt ∧ (gi (C_192 0) 7).toInt ≤ 250 := fM_0_7 t_195
                have : 0 ≤ (gi (C_192 0) 23).toInt ∧ (gi (C_192 0) 23).toInt ≤ 250 := fM_0_23 t_195
                have : 0 ≤ (gi (C_192 0) 13).toInt ∧ (gi (C_192 0) 13).toInt ≤ 5 := fM_0_13 t_195
                rw [hQ]
                exact W.zret (v := 0) (ty := .boolean) hx hb hr (by decide) (fun t ht hW => ⟨⟨0, C_192, rfl, ⟨hT, hF, ⟨(Or.inl rfl), ⟨hq_193.2.1.1, hq_193.2.1.2⟩, (fun h9 => absurd rfl h9), (RelW.fr hR (fr_trk (mc := [(69, 74)]) (mf := [21, 22, 23, 24, 25]) fr_rf f_194 (inR_of (p := (69, 74)) (by decide) (by show 69 ≤ _; omega) (by show _ < 74; omega)) (by decide)) (by decide)), (by omega)⟩⟩, ⟨by rw [ht]; exact hP, hD⟩⟩, hS.F ht⟩) hS.2.2 dX7_statement_207
              · have u_197 := hq_193.2.2.2.1 c_196
                have u_198 := hq_193.2.2.2.2 c_196
                refine lv_aload_n hx hb dX7_statement_186 rfl (lv_at hl 0 rfl) ?_
                refine lv_aload_n hx hb dX7_statement_187 rfl (lv_at hl 0 rfl) ?_
                refine va_get (D := D) (ci := 7) (v := .ref (a 12)) (C := RX7) (T := TX7) (N := 29) hx hb htg ig_7 hown hK hP 0 (oh_wg (Nat.lt_of_lt_of_le (by decide) hn) (sM_0 hT)) rfl 16 (by decide) (htg _ q_989) (fun _ h9 => h9) rfl dX7_statement_188 ?_
                refine lv_aload_n hx hb dX7_statement_191 rfl (lv_at hl 0 rfl) ?_
                refine va_get (D := D) (ci := 7) (v := .int (gi (C 0) 15)) (C := RX7) (T := TX7) (N := 29) hx hb htg ig_7 hown hK hP 0 (oh_wg (Nat.lt_of_lt_of_le (by decide) hn) (sM_0 hT)) rfl 15 (by decide) (htg _ q_988) (fun _ h9 => h9) (oh_fv (c := C_192 0) (j := 15) rfl (congrArg vi (f_194.2 15 (by decide)))) dX7_statement_192 ?_
                have n_199 : vp_in (gi (C 0) 15) 5 := (rg_in (rn_ltu (u' := 4) (Int32.not_le.mp c_174) (fM_0_15 hT0) (rg_c (v := 5) (lo := 5) (hi := 5) (by decide)) (by decide)) (by decide))
                have b_200 : (gi (C 0) 15).toNatClampNeg < 5 := vp_lt n_199
                refine th_aald hx hb hK hP 12 2 (Nat.lt_of_lt_of_le (by decide) hn) (sM_12 hT) rfl n_199 dX7_statement_195 ?_
                refine lv_iconst (v := 1) hx hb dX7_statement_196 (by decide) ?_
                refine lv_iconst (v := 0) hx hb dX7_statement_197 (by decide) ?_
                refine lv_bipush (v := 99) hx hb dX7_statement_198 (by decide) ?_
                have : (gi (C_192 0) 7).toInt = (gi (C 0) 7).toInt := congrArg (fun z => (vi z).toInt) (f_194.2 7 (by decide))
                have : (gi (C_192 0) 13).toInt = (gi (C 0) 13).toInt := congrArg (fun z => (vi z).toInt) (f_194.2 13 (by decide))
                have : 0 ≤ (gi (C_192 0) 21).toInt ∧ (gi (C_192 0) 21).toInt ≤ 250 := fM_0_21 t_195
                have : 0 ≤ (gi (C_192 0) 7).toInt ∧ (gi (C_192 0) 7).toInt ≤ 250 := fM_0_7 t_195
                have : 0 ≤ (gi (C_192 0) 23).toInt ∧ (gi (C_192 0) 23).toInt ≤ 250 := fM_0_23 t_195
                have : 0 ≤ (gi (C_192 0) 13).toInt ∧ (gi (C_192 0) 13).toInt ≤ 5 := fM_0_13 t_195
                refine tm_V (As := [.ref (a (69 + (gi (C 0) 15).toNatClampNeg)), .int 1, .int 0, .int 99]) (rest := []) ⟨hx, hb, hml, hown, htg⟩ (c_X7_number l D E G _ a C_192 n hn hT (69 + (gi (C 0) 15).toNatClampNeg) (1 : Int32) (0 : Int32) (99 : Int32) ⟨(lt_blk b_200 hn (by decide)), (by omega), 2, fun C h => (h.bpart b_200).1, (rg_in (rg_c (v := 1) (lo := 1) (hi := 1) (by decide)) (by decide)), fun C v h h1 h2 => (h.uppart b_200 (tA_upd (h.bpart b_200) tA_any))⟩ (by omega)) (cwV 4 htg (oh_gV q_1225 q_1227 q_43 q_73 q_1228) rfl rfl rfl pdVX7_number ⟨Nat.le_of_ble_eq_true rfl, Nat.le_of_ble_eq_true rfl⟩) hK hP hD hG hS hA (va_recv hK hP (ci := 7) (q0 := 0) rfl (oh_wg (Nat.lt_of_lt_of_le (by decide) hn) (sM_0 hT))) rfl hl.1 rfl (Nat.le_of_ble_eq_true rfl) dX7_statement_200 ⟨Nat.le_of_ble_eq_true rfl, Nat.le_of_ble_eq_true rfl⟩ (fun r_201 C_202 H locs hq_203 hP hD hS => ?_)
                obtain ⟨hT, f_204, hq_203⟩ := hq_203
                have hF := fr_trk hF f_204 (inR_of (p := (69, 74)) (by decide) (by show 69 ≤ _; omega) (by show _ < 74; omega)) (by decide)
                refine W.widen (k := 0) (n := 0) (Nat.le_refl _) (Nat.le_refl _) ?_
                have t_205 := hT
                refine lv_if_ne (tgt := 208) hx hb dX7_statement_203 (by decide) (fun (c_206 : ¬ (r_201 = 0)) => ?_) (fun (c_206 : r_201 = 0) => ?_)
                · have u_207 := hq_203.2.2.2 c_206
                  refine lv_aload_n hx hb dX7_statement_208 rfl (lv_at hl 0 rfl) ?_
                  refine lv_dup hx hb dX7_statement_209 rfl ?_
                  refine va_get (D := D) (ci := 7) (v := .int (gi (C 0) 15)) (C := RX7) (T := TX7) (N := 29) hx hb htg ig_7 hown hK hP 0 (oh_wg (Nat.lt_of_lt_of_le (by decide) hn) (sM_0 hT)) rfl 15 (by decide) (htg _ q_988) (fun _ h9 => h9) (oh_fv (c := C_202 0) (j := 15) rfl (Eq.trans (congrArg vi (f_204.2 15 (by decide))) (congrArg vi (f_194.2 15 (by decide))))) dX7_statement_210 ?_
                  refine lv_iconst (v := 1) hx hb dX7_statement_213 (by decide) ?_
                  refine lv_iadd hx hb dX7_statement_214 ?_
                  refine th_put (Tp := TyM a E) (Rl := fr [(13, 14), (24, 48), (48, 64), (64, 69), (69, 74)] [9, 11, 13, 15, 21, 22, 23, 24, 25] C) (ci := 7) (v := .int ((gi (C 0) 15) + 1)) (ty := .int) (CC := RX7) (T := TX7) (N := 29) hx hb htg ig_7 tyX7 tyX7_ok nmX7 hown hK hP hD hS 0 (Nat.lt_of_lt_of_le (by decide) hn) (sM_0 hT) rfl 15 (by decide) (htg _ q_988) (fun _ h9 => h9) rfl (by decide +kernel) rfl rfl (Nat.le_of_ble_eq_true rfl) (hT.up 0 (by decide) ⟨rfl, (fM_0_7 hT), (fM_0_9 hT), (fM_0_11 hT), (fM_0_13 hT), (rg_w (rg_add (lo := 1) (hi := 5) (rn_ltu (u' := 4) (Int32.not_le.mp c_174) (fM_0_15 hT0) (rg_c (v := 5) (lo := 5) (hi := 5) (by decide)) (by decide)) (rg_c (v := 1) (lo := 1) (hi := 1) (by decide)) (by decide)) (by decide)), (fM_0_21 hT), (fM_0_23 hT)⟩) (fr_fd hF (sM_0 hT) (by decide)) dX7_statement_215 (fun C_208 H locs e_209 hT hF hP hD hS => ?_)
                  have t_210 := hT
                  refine lv_iconst (v := 1) hx hb dX7_statement_218 (by decide) ?_
                  have : (gi (C_202 0) 7).toInt = (gi (C_192 0) 7).toInt := congrArg (fun z => (vi z).toInt) (f_204.2 7 (by decide))
                  have : (gi (C_202 0) 13).toInt = (gi (C_192 0) 13).toInt := congrArg (fun z => (vi z).toInt) (f_204.2 13 (by decide))
                  have : (gi (C_208 0) 21).toInt = (gi (C_202 0) 21).toInt := congrArg Int32.toInt (show gi (C_208 0) 21 = gi (C_202 0) 21 by rw [e_209]; rfl)
                  have : (gi (C_208 0) 7).toInt = (gi (C_202 0) 7).toInt := congrArg Int32.toInt (show gi (C_208 0) 7 = gi (C_202 0) 7 by rw [e_209]; rfl)
                  have : (gi (C_208 0) 23).toInt = (gi (C_202 0) 23).toInt := congrArg Int32.toInt (show gi (C_208 0) 23 = gi (C_202 0) 23 by rw [e_209]; rfl)
                  have : (gi (C_208 0) 13).toInt = (gi (C_202 0) 13).toInt := congrArg Int32.toInt (show gi (C_208 0) 13 = gi (C_202 0) 13 by rw [e_209]; rfl)
                  have : 0 ≤ (gi (C_202 0) 21).toInt ∧ (gi (C_202 0) 21).toInt ≤ 250 := fM_0_21 t_205
                  have : 0 ≤ (gi (C_202 0) 7).toInt ∧ (gi (C_202 0) 7).toInt ≤ 250 := fM_0_7 t_205
                  have : 0 ≤ (gi (C_202 0) 23).toInt ∧ (gi (C_202 0) 23).toInt ≤ 250 := fM_0_23 t_205
                  have : 0 ≤ (gi (C_202 0) 13).toInt ∧ (gi (C_202 0) 13).toInt ≤ 5 := fM_0_13 t_205
                  have : 0 ≤ (gi (C_208 0) 21).toInt ∧ (gi (C_208 0) 21).toInt ≤ 250 := fM_0_21 t_210
                  have : 0 ≤ (gi (C_208 0) 7).toInt ∧ (gi (C_208 0) 7).toInt ≤ 250 := fM_0_7 t_210
                  have : 0 ≤ (gi (C_208 0) 23).toInt ∧ (gi (C_208 0) 23).toInt ≤ 250 := fM_0_23 t_210
                  have : 0 ≤ (gi (C_208 0) 13).toInt ∧ (gi (C_208 0) 13).toInt ≤ 5 := fM_0_13 t_210
                  rw [hQ]
                  exact W.zret (v := 1) (ty := .boolean) hx hb hr (by decide) (fun t ht hW => ⟨⟨1, C_208, rfl, ⟨hT, hF, ⟨(Or.inr rfl), ⟨(by omega), (by omega)⟩, (fun _ => (by omega)), (RelW.fr (RelW.fr (RelW.fr hR (fr_trk (mc := [(69, 74)]) (mf := [21, 22, 23, 24, 25]) fr_rf f_194 (inR_of (p := (69, 74)) (by decide) (by show 69 ≤ _; omega) (by show _ < 74; omega)) (by decide)) (by decide)) (fr_trk (mc := [(69, 74)]) (mf := [21, 22, 23, 24, 25]) fr_rf f_204 (inR_of (p := (69, 74)) (by decide) (by show 69 ≤ _; omega) (by show _ < 74; omega)) (by decide)) (by decide)) (fr_fde (mc := []) (mf := [15]) fr_rf e_209 (sM_0 t_205) (by decide)) (by decide)), (by omega)⟩⟩, ⟨by rw [ht]; exact hP, hD⟩⟩, hS.F ht⟩) hS.2.2 dX7_statement_219
                · refine lv_iconst (v := 0) hx hb dX7_statement_206 (by decide) ?_
                  have : (gi (C_202 0) 7).toInt = (gi (C_192 0) 7).toInt := congrArg (fun z => (vi z).toInt) (f_204.2 7 (by decide))
                  have : (gi (C_202 0) 13).toInt = (gi (C_192 0) 13).toInt := congrArg (fun z => (vi z).toInt) (f_204.2 13 (by decide))
                  have : 0 ≤ (gi (C_202 0) 21).toInt ∧ (gi (C_202 0) 21).toInt ≤ 250 := fM_0_21 t_205
                  have : 0 ≤ (gi (C_202 0) 7).toInt ∧ (gi (C_202 0) 7).toInt ≤ 250 := fM_0_7 t_205
                  have : 0 ≤ (gi (C_202 0) 23).toInt ∧ (gi (C_202 0) 23).toInt ≤ 250 := fM_0_23 t_205
                  have : 0 ≤ (gi (C_202 0) 13).toInt ∧ (gi (C_202 0) 13).toInt ≤ 5 := fM_0_13 t_205
                  rw [hQ]
                  exact W.zret (v := 0) (ty := .boolean) hx hb hr (by decide) (fun t ht hW => ⟨⟨0, C_202, rfl, ⟨hT, hF, ⟨(Or.inl rfl), ⟨(by omega), hq_203.2.1.2⟩, (fun h9 => absurd rfl h9), (RelW.fr (RelW.fr hR (fr_trk (mc := [(69, 74)]) (mf := [21, 22, 23, 24, 25]) fr_rf f_194 (inR_of (p := (69, 74)) (by decide) (by show 69 ≤ _; omega) (by show _ < 74; omega)) (by decide)) (by decide)) (fr_trk (mc := [(69, 74)]) (mf := [21, 22, 23, 24, 25]) fr_rf f_204 (inR_of (p := (69, 74)) (by decide) (by show 69 ≤ _; omega) (by show _ < 74; omega)) (by decide)) (by decide)), (by omega)⟩⟩, ⟨by rw [ht]; exact hP, hD⟩⟩, hS.F ht⟩) hS.2.2 dX7_statement_207
        · have u_211 := hq_154.2 c_155
          refine lv_aload_n hx hb dX7_statement_73 rfl (lv_at hl 0 rfl) ?_
          refine va_get (D := D) (ci := 7) (v := .int (gi (C 0) 13)) (C := RX7) (T := TX7) (N := 29) hx hb htg ig_7 hown hK hP 0 (oh_wg (Nat.lt_of_lt_of_le (by decide) hn) (sM_0 hT)) rfl 13 (by decide) (htg _ q_986) (fun _ h9 => h9) rfl dX7_statement_74 ?_
          refine lv_iconst (v := 5) hx hb dX7_statement_77 (by decide) ?_
          refine lv_icmp_ge (tgt := 147) hx hb dX7_statement_78 (by decide) (fun (c_212 : (5 : Int32) ≤ (gi (C 0) 13)) => ?_) (fun (c_212 : ¬ ((5 : Int32) ≤ (gi (C 0) 13))) => ?_)
          · refine lv_aload_n hx hb dX7_statement_147 rfl (lv_at hl 0 rfl) ?_
            refine va_ldcS hx hb hown (hG.2.2.1 ("OneHeavyLoadModel", 214, "part", 34) (List.mem_of_getElem? (i := 31) rfl)) dX7_statement_148 ?_
            refine tq_V (As := [.ref (G (3 + 31))]) (rest := []) (ws := (oh_W n a C)) ⟨hx, hb, hml, hown, htg⟩ (c_X7_isWord l D E G a C n hn hT 31 (by decide)) (cwV 1 htg (oh_gV q_1215 q_1217 q_41 q_73 q_1218) rfl rfl rfl pdVX7_isWord ⟨Nat.le_of_ble_eq_true rfl, Nat.le_of_ble_eq_true rfl⟩) hK hP hG hS (va_recv hK hP (ci := 7) (q0 := 0) rfl (oh_wg (Nat.lt_of_lt_of_le (by decide) hn) (sM_0 hT))) rfl hl.1 rfl (Nat.le_of_ble_eq_true rfl) dX7_statement_150 ⟨Nat.le_of_ble_eq_true rfl, Nat.le_of_ble_eq_true rfl⟩ (fun r_213 hq_214 => ?_)
            refine lv_if_eq (tgt := 220) hx hb dX7_statement_153 (by decide) (fun (c_215 : r_213 = 0) => ?_) (fun (c_215 : ¬ (r_213 = 0)) => ?_)
            · refine lv_aload_n hx hb dX7_statement_220 rfl (lv_at hl 0 rfl) ?_
              refine va_ldcS hx hb hown (hG.2.2.1 ("OneHeavyLoadModel", 215, "load", 35) (List.mem_of_getElem? (i := 32) rfl)) dX7_statement_221 ?_
              refine tq_V (As := [.ref (G (3 + 32))]) (rest := []) (ws := (oh_W n a C)) ⟨hx, hb, hml, hown, htg⟩ (c_X7_isWord l D E G a C n hn hT 32 (by decide)) (cwV 1 htg (oh_gV q_1215 q_1217 q_41 q_73 q_1218) rfl rfl rfl pdVX7_isWord ⟨Nat.le_of_ble_eq_true rfl, Nat.le_of_ble_eq_true rfl⟩) hK hP hG hS (va_recv hK hP (ci := 7) (q0 := 0) rfl (oh_wg (Nat.lt_of_lt_of_le (by decide) hn) (sM_0 hT))) rfl hl.1 rfl (Nat.le_of_ble_eq_true rfl) dX7_statement_223 ⟨Nat.le_of_ble_eq_true rfl, Nat.le_of_ble_eq_true rfl⟩ (fun r_216 hq_217 => ?_)
              refine lv_if_eq (tgt := 245) hx hb dX7_statement_226 (by decide) (fun (c_218 : r_216 = 0) => ?_) (fun (c_218 : ¬ (r_216 = 0)) => ?_)
              · refine lv_aload_n hx hb dX7_statement_245 rfl (lv_at hl 0 rfl) ?_
                refine va_ldcS hx hb hown (hG.2.2.1 ("OneHeavyLoadModel", 217, "mile", 36) (List.mem_of_getElem? (i := 33) rfl)) dX7_statement_246 ?_
                refine lv_aload_n hx hb dX7_statement_248 rfl (lv_at hl 0 rfl) ?_
                refine va_get (D := D) (ci := 7) (v := .ref (a 13)) (C := RX7) (T := TX7) (N := 29) hx hb htg ig_7 hown hK hP 0 (oh_wg (Nat.lt_of_lt_of_le (by decide) hn) (sM_0 hT)) rfl 17 (by decide) (htg _ q_990) (fun _ h9 => h9) rfl dX7_statement_249 ?_
                refine lv_iconst (v := 1) hx hb dX7_statement_252 (by decide) ?_
                refine lv_iconst (v := 0) hx hb dX7_statement_253 (by decide) ?_
                refine lv_bipush (v := 99) hx hb dX7_statement_254 (by decide) ?_
                have : 0 ≤ (gi (C 0) 21).toInt ∧ (gi (C 0) 21).toInt ≤ 250 := fM_0_21 hT0
                have : 0 ≤ (gi (C 0) 7).toInt ∧ (gi (C 0) 7).toInt ≤ 250 := fM_0_7 hT0
                have : 0 ≤ (gi (C 0) 23).toInt ∧ (gi (C 0) 23).toInt ≤ 250 := fM_0_23 hT0
                have : 0 ≤ (gi (C 0) 13).toInt ∧ (gi (C 0) 13).toInt ≤ 5 := fM_0_13 hT0
                have : (16 : Int32).toInt = 16 := rfl
                have : (16 : Int32).toInt ≤ (gi (C 0) 11).toInt := Int32.le_iff_toInt_le.mp c_152
                have : (5 : Int32).toInt = 5 := rfl
                have : (5 : Int32).toInt ≤ (gi (C 0) 13).toInt := Int32.le_iff_toInt_le.mp c_212
                refine tm_V (As := [.ref (G (3 + 33)), .ref (a 13), .int 1, .int 0, .int 99]) (rest := []) ⟨hx, hb, hml, hown, htg⟩ (c_X7_told l D E G _ a C n hn hT 33 13 (1 : Int32) (0 : Int32) (99 : Int32) (by decide) ⟨(Nat.lt_of_lt_of_le (by decide) hn), (by decide), 3, fun C h => (sM_13 h), (rg_in (rg_c (v := 1) (lo := 1) (hi := 1) (by decide)) (by decide)), fun C v h h1 h2 => (h.up 13 (by decide) (tA_upd (tM_13 h) tA_any))⟩ (by omega)) (cwV 5 htg (oh_gV q_1234 q_1236 q_45 q_73 q_1237) rfl rfl rfl pdVX7_told ⟨Nat.le_of_ble_eq_true rfl, Nat.le_of_ble_eq_true rfl⟩) hK hP hD hG hS hA (va_recv hK hP (ci := 7) (q0 := 0) rfl (oh_wg (Nat.lt_of_lt_of_le (by decide) hn) (sM_0 hT))) rfl hl.1 rfl (Nat.le_of_ble_eq_true rfl) dX7_statement_256 ⟨Nat.le_of_ble_eq_true rfl, Nat.le_of_ble_eq_true rfl⟩ (fun r_219 C_220 H locs hq_221 hP hD hS => ?_)
                obtain ⟨hT, f_222, hq_221⟩ := hq_221
                have hF := fr_trk hF f_222 (by decide) (by decide)
                refine W.widen (k := 0) (n := 0) (Nat.le_refl _) (Nat.le_refl _) ?_
                have t_223 := hT
                have : (gi (C_220 0) 7).toInt = (gi (C 0) 7).toInt := congrArg (fun z => (vi z).toInt) (f_222.2 7 (by decide))
                have : (gi (C_220 0) 13).toInt = (gi (C 0) 13).toInt := congrArg (fun z => (vi z).toInt) (f_222.2 13 (by decide))
                have : 0 ≤ (gi (C_220 0) 21).toInt ∧ (gi (C_220 0) 21).toInt ≤ 250 := fM_0_21 t_223
                have : 0 ≤ (gi (C_220 0) 7).toInt ∧ (gi (C_220 0) 7).toInt ≤ 250 := fM_0_7 t_223
                have : 0 ≤ (gi (C_220 0) 23).toInt ∧ (gi (C_220 0) 23).toInt ≤ 250 := fM_0_23 t_223
                have : 0 ≤ (gi (C_220 0) 13).toInt ∧ (gi (C_220 0) 13).toInt ≤ 5 := fM_0_13 t_223
                rw [hQ]
                exact W.zret (v := r_219) (ty := .boolean) hx hb hr (oh_nb hq_221.1) (fun t ht hW => ⟨⟨r_219, C_220, rfl, ⟨hT, hF, ⟨hq_221.1, ⟨hq_221.2.1.1, hq_221.2.1.2⟩, (fun h9 => (hq_221.2.2.2.2 h9)), (RelW.fr hR (fr_trk (mc := [(13, 14)]) (mf := [21, 22, 23, 24, 25]) fr_rf f_222 (by decide) (by decide)) (by decide)), (by omega)⟩⟩, ⟨by rw [ht]; exact hP, hD⟩⟩, hS.F ht⟩) hS.2.2 dX7_statement_259
              · have u_224 := hq_217.2 c_218
                refine lv_aload_n hx hb dX7_statement_229 rfl (lv_at hl 0 rfl) ?_
                refine va_ldcS hx hb hown (hG.2.2.1 ("OneHeavyLoadModel", 215, "load", 35) (List.mem_of_getElem? (i := 32) rfl)) dX7_statement_230 ?_
                refine lv_aload_n hx hb dX7_statement_232 rfl (lv_at hl 0 rfl) ?_
                refine va_get (D := D) (ci := 7) (v := .ref (a 13)) (C := RX7) (T := TX7) (N := 29) hx hb htg ig_7 hown hK hP 0 (oh_wg (Nat.lt_of_lt_of_le (by decide) hn) (sM_0 hT)) rfl 17 (by decide) (htg _ q_990) (fun _ h9 => h9) rfl dX7_statement_233 ?_
                refine lv_iconst (v := 0) hx hb dX7_statement_236 (by decide) ?_
                refine lv_iconst (v := 0) hx hb dX7_statement_237 (by decide) ?_
                refine lv_sipush (v := 900) hx hb dX7_statement_238 (by decide) ?_
                have : 0 ≤ (gi (C 0) 21).toInt ∧ (gi (C 0) 21).toInt ≤ 250 := fM_0_21 hT0
                have : 0 ≤ (gi (C 0) 7).toInt ∧ (gi (C 0) 7).toInt ≤ 250 := fM_0_7 hT0
                have : 0 ≤ (gi (C 0) 23).toInt ∧ (gi (C 0) 23).toInt ≤ 250 := fM_0_23 hT0
                have : 0 ≤ (gi (C 0) 13).toInt ∧ (gi (C 0) 13).toInt ≤ 5 := fM_0_13 hT0
                have : (16 : Int32).toInt = 16 := rfl
                have : (16 : Int32).toInt ≤ (gi (C 0) 11).toInt := Int32.le_iff_toInt_le.mp c_152
                have : (5 : Int32).toInt = 5 := rfl
                have : (5 : Int32).toInt ≤ (gi (C 0) 13).toInt := Int32.le_iff_toInt_le.mp c_212
                refine tm_V (As := [.ref (G (3 + 32)), .ref (a 13), .int 0, .int 0, .int 900]) (rest := []) ⟨hx, hb, hml, hown, htg⟩ (c_X7_told l D E G _ a C n hn hT 32 13 (0 : Int32) (0 : Int32) (900 : Int32) (by decide) ⟨(Nat.lt_of_lt_of_le (by decide) hn), (by decide), 3, fun C h => (sM_13 h), (rg_in (rg_c (v := 0) (lo := 0) (hi := 0) (by decide)) (by decide)), fun C v h h1 h2 => (h.up 13 (by decide) (tA_upd (tM_13 h) tA_any))⟩ (by omega)) (cwV 5 htg (oh_gV q_1234 q_1236 q_45 q_73 q_1237) rfl rfl rfl pdVX7_told ⟨Nat.le_of_ble_eq_true rfl, Nat.le_of_ble_eq_true rfl⟩) hK hP hD hG hS hA (va_recv hK hP (ci := 7) (q0 := 0) rfl (oh_wg (Nat.lt_of_lt_of_le (by decide) hn) (sM_0 hT))) rfl hl.1 rfl (Nat.le_of_ble_eq_true rfl) dX7_statement_241 ⟨Nat.le_of_ble_eq_true rfl, Nat.le_of_ble_eq_true rfl⟩ (fun r_225 C_226 H locs hq_227 hP hD hS => ?_)
                obtain ⟨hT, f_228, hq_227⟩ := hq_227
                have hF := fr_trk hF f_228 (by decide) (by decide)
                refine W.widen (k := 0) (n := 0) (Nat.le_refl _) (Nat.le_refl _) ?_
                have t_229 := hT
                have : (gi (C_226 0) 7).toInt = (gi (C 0) 7).toInt := congrArg (fun z => (vi z).toInt) (f_228.2 7 (by decide))
                have : (gi (C_226 0) 13).toInt = (gi (C 0) 13).toInt := congrArg (fun z => (vi z).toInt) (f_228.2 13 (by decide))
                have : 0 ≤ (gi (C_226 0) 21).toInt ∧ (gi (C_226 0) 21).toInt ≤ 250 := fM_0_21 t_229
                have : 0 ≤ (gi (C_226 0) 7).toInt ∧ (gi (C_226 0) 7).toInt ≤ 250 := fM_0_7 t_229
                have : 0 ≤ (gi (C_226 0) 23).toInt ∧ (gi (C_226 0) 23).toInt ≤ 250 := fM_0_23 t_229
                have : 0 ≤ (gi (C_226 0) 13).toInt ∧ (gi (C_226 0) 13).toInt ≤ 5 := fM_0_13 t_229
                rw [hQ]
                exact W.zret (v := r_225) (ty := .boolean) hx hb hr (oh_nb hq_227.1) (fun t ht hW => ⟨⟨r_225, C_226, rfl, ⟨hT, hF, ⟨hq_227.1, ⟨hq_227.2.1.1, hq_227.2.1.2⟩, (fun h9 => (hq_227.2.2.2.2 h9)), (RelW.fr hR (fr_trk (mc := [(13, 14)]) (mf := [21, 22, 23, 24, 25]) fr_rf f_228 (by decide) (by decide)) (by decide)), (by omega)⟩⟩, ⟨by rw [ht]; exact hP, hD⟩⟩, hS.F ht⟩) hS.2.2 dX7_statement_244
            · have u_230 := hq_214.2 c_215
              refine lv_aload_n hx hb dX7_statement_156 rfl (lv_at hl 0 rfl) ?_
              refine va_get (D := D) (ci := 7) (v := .int (gi (C 0) 15)) (C := RX7) (T := TX7) (N := 29) hx hb htg ig_7 hown hK hP 0 (oh_wg (Nat.lt_of_lt_of_le (by decide) hn) (sM_0 hT)) rfl 15 (by decide) (htg _ q_988) (fun _ h9 => h9) rfl dX7_statement_157 ?_
              refine lv_iconst (v := 5) hx hb dX7_statement_160 (by decide) ?_
              refine lv_icmp_ge (tgt := 220) hx hb dX7_statement_161 (by decide) (fun (c_231 : (5 : Int32) ≤ (gi (C 0) 15)) => ?_) (fun (c_231 : ¬ ((5 : Int32) ≤ (gi (C 0) 15))) => ?_)
              · refine lv_aload_n hx hb dX7_statement_220 rfl (lv_at hl 0 rfl) ?_
                refine va_ldcS hx hb hown (hG.2.2.1 ("OneHeavyLoadModel", 215, "load", 35) (List.mem_of_getElem? (i := 32) rfl)) dX7_statement_221 ?_
                refine tq_V (As := [.ref (G (3 + 32))]) (rest := []) (ws := (oh_W n a C)) ⟨hx, hb, hml, hown, htg⟩ (c_X7_isWord l D E G a C n hn hT 32 (by decide)) (cwV 1 htg (oh_gV q_1215 q_1217 q_41 q_73 q_1218) rfl rfl rfl pdVX7_isWord ⟨Nat.le_of_ble_eq_true rfl, Nat.le_of_ble_eq_true rfl⟩) hK hP hG hS (va_recv hK hP (ci := 7) (q0 := 0) rfl (oh_wg (Nat.lt_of_lt_of_le (by decide) hn) (sM_0 hT))) rfl hl.1 rfl (Nat.le_of_ble_eq_true rfl) dX7_statement_223 ⟨Nat.le_of_ble_eq_true rfl, Nat.le_of_ble_eq_true rfl⟩ (fun r_232 hq_233 => ?_)
                refine lv_if_eq (tgt := 245) hx hb dX7_statement_226 (by decide) (fun (c_234 : r_232 = 0) => ?_) (fun (c_234 : ¬ (r_232 = 0)) => ?_)
                · refine lv_aload_n hx hb dX7_statement_245 rfl (lv_at hl 0 rfl) ?_
                  refine va_ldcS hx hb hown (hG.2.2.1 ("OneHeavyLoadModel", 217, "mile", 36) (List.mem_of_getElem? (i := 33) rfl)) dX7_statement_246 ?_
                  refine lv_aload_n hx hb dX7_statement_248 rfl (lv_at hl 0 rfl) ?_
                  refine va_get (D := D) (ci := 7) (v := .ref (a 13)) (C := RX7) (T := TX7) (N := 29) hx hb htg ig_7 hown hK hP 0 (oh_wg (Nat.lt_of_lt_of_le (by decide) hn) (sM_0 hT)) rfl 17 (by decide) (htg _ q_990) (fun _ h9 => h9) rfl dX7_statement_249 ?_
                  refine lv_iconst (v := 1) hx hb dX7_statement_252 (by decide) ?_
                  refine lv_iconst (v := 0) hx hb dX7_statement_253 (by decide) ?_
                  refine lv_bipush (v := 99) hx hb dX7_statement_254 (by decide) ?_
                  have : 0 ≤ (gi (C 0) 21).toInt ∧ (gi (C 0) 21).toInt ≤ 250 := fM_0_21 hT0
                  have : 0 ≤ (gi (C 0) 7).toInt ∧ (gi (C 0) 7).toInt ≤ 250 := fM_0_7 hT0
                  have : 0 ≤ (gi (C 0) 23).toInt ∧ (gi (C 0) 23).toInt ≤ 250 := fM_0_23 hT0
                  have : 0 ≤ (gi (C 0) 13).toInt ∧ (gi (C 0) 13).toInt ≤ 5 := fM_0_13 hT0
                  have : (16 : Int32).toInt = 16 := rfl
                  have : (16 : Int32).toInt ≤ (gi (C 0) 11).toInt := Int32.le_iff_toInt_le.mp c_152
                  have : (5 : Int32).toInt = 5 := rfl
                  have : (5 : Int32).toInt ≤ (gi (C 0) 13).toInt := Int32.le_iff_toInt_le.mp c_212
                  have : (5 : Int32).toInt ≤ (gi (C 0) 15).toInt := Int32.le_iff_toInt_le.mp c_231
                  refine tm_V (As := [.ref (G (3 + 33)), .ref (a 13), .int 1, .int 0, .int 99]) (rest := []) ⟨hx, hb, hml, hown, htg⟩ (c_X7_told l D E G _ a C n hn hT 33 13 (1 : Int32) (0 : Int32) (99 : Int32) (by decide) ⟨(Nat.lt_of_lt_of_le (by decide) hn), (by decide), 3, fun C h => (sM_13 h), (rg_in (rg_c (v := 1) (lo := 1) (hi := 1) (by decide)) (by decide)), fun C v h h1 h2 => (h.up 13 (by decide) (tA_upd (tM_13 h) tA_any))⟩ (by omega)) (cwV 5 htg (oh_gV q_1234 q_1236 q_45 q_73 q_1237) rfl rfl rfl pdVX7_told ⟨Nat.le_of_ble_eq_true rfl, Nat.le_of_ble_eq_true rfl⟩) hK hP hD hG hS hA (va_recv hK hP (ci := 7) (q0 := 0) rfl (oh_wg (Nat.lt_of_lt_of_le (by decide) hn) (sM_0 hT))) rfl hl.1 rfl (Nat.le_of_ble_eq_true rfl) dX7_statement_256 ⟨Nat.le_of_ble_eq_true rfl, Nat.le_of_ble_eq_true rfl⟩ (fun r_235 C_236 H locs hq_237 hP hD hS => ?_)
                  obtain ⟨hT, f_238, hq_237⟩ := hq_237
                  have hF := fr_trk hF f_238 (by decide) (by decide)
                  refine W.widen (k := 0) (n := 0) (Nat.le_refl _) (Nat.le_refl _) ?_
                  have t_239 := hT
                  have : (gi (C_236 0) 7).toInt = (gi (C 0) 7).toInt := congrArg (fun z => (vi z).toInt) (f_238.2 7 (by decide))
                  have : (gi (C_236 0) 13).toInt = (gi (C 0) 13).toInt := congrArg (fun z => (vi z).toInt) (f_238.2 13 (by decide))
                  have : 0 ≤ (gi (C_236 0) 21).toInt ∧ (gi (C_236 0) 21).toInt ≤ 250 := fM_0_21 t_239
                  have : 0 ≤ (gi (C_236 0) 7).toInt ∧ (gi (C_236 0) 7).toInt ≤ 250 := fM_0_7 t_239
                  have : 0 ≤ (gi (C_236 0) 23).toInt ∧ (gi (C_236 0) 23).toInt ≤ 250 := fM_0_23 t_239
                  have : 0 ≤ (gi (C_236 0) 13).toInt ∧ (gi (C_236 0) 13).toInt ≤ 5 := fM_0_13 t_239
                  rw [hQ]
                  exact W.zret (v := r_235) (ty := .boolean) hx hb hr (oh_nb hq_237.1) (fun t ht hW => ⟨⟨r_235, C_236, rfl, ⟨hT, hF, ⟨hq_237.1, ⟨hq_237.2.1.1, hq_237.2.1.2⟩, (fun h9 => (hq_237.2.2.2.2 h9)), (RelW.fr hR (fr_trk (mc := [(13, 14)]) (mf := [21, 22, 23, 24, 25]) fr_rf f_238 (by decide) (by decide)) (by decide)), (by omega)⟩⟩, ⟨by rw [ht]; exact hP, hD⟩⟩, hS.F ht⟩) hS.2.2 dX7_statement_259
                · have u_240 := hq_233.2 c_234
                  refine lv_aload_n hx hb dX7_statement_229 rfl (lv_at hl 0 rfl) ?_
                  refine va_ldcS hx hb hown (hG.2.2.1 ("OneHeavyLoadModel", 215, "load", 35) (List.mem_of_getElem? (i := 32) rfl)) dX7_statement_230 ?_
                  refine lv_aload_n hx hb dX7_statement_232 rfl (lv_at hl 0 rfl) ?_
                  refine va_get (D := D) (ci := 7) (v := .ref (a 13)) (C := RX7) (T := TX7) (N := 29) hx hb htg ig_7 hown hK hP 0 (oh_wg (Nat.lt_of_lt_of_le (by decide) hn) (sM_0 hT)) rfl 17 (by decide) (htg _ q_990) (fun _ h9 => h9) rfl dX7_statement_233 ?_
                  refine lv_iconst (v := 0) hx hb dX7_statement_236 (by decide) ?_
                  refine lv_iconst (v := 0) hx hb dX7_statement_237 (by decide) ?_
                  refine lv_sipush (v := 900) hx hb dX7_statement_238 (by decide) ?_
                  have : 0 ≤ (gi (C 0) 21).toInt ∧ (gi (C 0) 21).toInt ≤ 250 := fM_0_21 hT0
                  have : 0 ≤ (gi (C 0) 7).toInt ∧ (gi (C 0) 7).toInt ≤ 250 := fM_0_7 hT0
                  have : 0 ≤ (gi (C 0) 23).toInt ∧ (gi (C 0) 23).toInt ≤ 250 := fM_0_23 hT0
                  have : 0 ≤ (gi (C 0) 13).toInt ∧ (gi (C 0) 13).toInt ≤ 5 := fM_0_13 hT0
                  have : (16 : Int32).toInt = 16 := rfl
                  have : (16 : Int32).toInt ≤ (gi (C 0) 11).toInt := Int32.le_iff_toInt_le.mp c_152
                  have : (5 : Int32).toInt = 5 := rfl
                  have : (5 : Int32).toInt ≤ (gi (C 0) 13).toInt := Int32.le_iff_toInt_le.mp c_212
                  have : (5 : Int32).toInt ≤ (gi (C 0) 15).toInt := Int32.le_iff_toInt_le.mp c_231
                  refine tm_V (As := [.ref (G (3 + 32)), .ref (a 13), .int 0, .int 0, .int 900]) (rest := []) ⟨hx, hb, hml, hown, htg⟩ (c_X7_told l D E G _ a C n hn hT 32 13 (0 : Int32) (0 : Int32) (900 : Int32) (by decide) ⟨(Nat.lt_of_lt_of_le (by decide) hn), (by decide), 3, fun C h => (sM_13 h), (rg_in (rg_c (v := 0) (lo := 0) (hi := 0) (by decide)) (by decide)), fun C v h h1 h2 => (h.up 13 (by decide) (tA_upd (tM_13 h) tA_any))⟩ (by omega)) (cwV 5 htg (oh_gV q_1234 q_1236 q_45 q_73 q_1237) rfl rfl rfl pdVX7_told ⟨Nat.le_of_ble_eq_true rfl, Nat.le_of_ble_eq_true rfl⟩) hK hP hD hG hS hA (va_recv hK hP (ci := 7) (q0 := 0) rfl (oh_wg (Nat.lt_of_lt_of_le (by decide) hn) (sM_0 hT))) rfl hl.1 rfl (Nat.le_of_ble_eq_true rfl) dX7_statement_241 ⟨Nat.le_of_ble_eq_true rfl, Nat.le_of_ble_eq_true rfl⟩ (fun r_241 C_242 H locs hq_243 hP hD hS => ?_)
                  obtain ⟨hT, f_244, hq_243⟩ := hq_243
                  have hF := fr_trk hF f_244 (by decide) (by decide)
                  refine W.widen (k := 0) (n := 0) (Nat.le_refl _) (Nat.le_refl _) ?_
                  have t_245 := hT
                  have : (gi (C_242 0) 7).toInt = (gi (C 0) 7).toInt := congrArg (fun z => (vi z).toInt) (f_244.2 7 (by decide))
                  have : (gi (C_242 0) 13).toInt = (gi (C 0) 13).toInt := congrArg (fun z => (vi z).toInt) (f_244.2 13 (by decide))
                  have : 0 ≤ (gi (C_242 0) 21).toInt ∧ (gi (C_242 0) 21).toInt ≤ 250 := fM_0_21 t_245
                  have : 0 ≤ (gi (C_242 0) 7).toInt ∧ (gi (C_242 0) 7).toInt ≤ 250 := fM_0_7 t_245
                  have : 0 ≤ (gi (C_242 0) 23).toInt ∧ (gi (C_242 0) 23).toInt ≤ 250 := fM_0_23 t_245
                  have : 0 ≤ (gi (C_242 0) 13).toInt ∧ (gi (C_242 0) 13).toInt ≤ 5 := fM_0_13 t_245
                  rw [hQ]
                  exact W.zret (v := r_241) (ty := .boolean) hx hb hr (oh_nb hq_243.1) (fun t ht hW => ⟨⟨r_241, C_242, rfl, ⟨hT, hF, ⟨hq_243.1, ⟨hq_243.2.1.1, hq_243.2.1.2⟩, (fun h9 => (hq_243.2.2.2.2 h9)), (RelW.fr hR (fr_trk (mc := [(13, 14)]) (mf := [21, 22, 23, 24, 25]) fr_rf f_244 (by decide) (by decide)) (by decide)), (by omega)⟩⟩, ⟨by rw [ht]; exact hP, hD⟩⟩, hS.F ht⟩) hS.2.2 dX7_statement_244
              · refine lv_aload_n hx hb dX7_statement_164 rfl (lv_at hl 0 rfl) ?_
                refine va_ldcS hx hb hown (hG.2.2.1 ("OneHeavyLoadModel", 214, "part", 34) (List.mem_of_getElem? (i := 31) rfl)) dX7_statement_165 ?_
                refine lv_aload_n hx hb dX7_statement_167 rfl (lv_at hl 0 rfl) ?_
                refine va_get (D := D) (ci := 7) (v := .ref (a 12)) (C := RX7) (T := TX7) (N := 29) hx hb htg ig_7 hown hK hP 0 (oh_wg (Nat.lt_of_lt_of_le (by decide) hn) (sM_0 hT)) rfl 16 (by decide) (htg _ q_989) (fun _ h9 => h9) rfl dX7_statement_168 ?_
                refine lv_aload_n hx hb dX7_statement_171 rfl (lv_at hl 0 rfl) ?_
                refine va_get (D := D) (ci := 7) (v := .int (gi (C 0) 15)) (C := RX7) (T := TX7) (N := 29) hx hb htg ig_7 hown hK hP 0 (oh_wg (Nat.lt_of_lt_of_le (by decide) hn) (sM_0 hT)) rfl 15 (by decide) (htg _ q_988) (fun _ h9 => h9) rfl dX7_statement_172 ?_
                have n_246 : vp_in (gi (C 0) 15) 5 := (rg_in (rn_ltu (u' := 4) (Int32.not_le.mp c_231) (fM_0_15 hT0) (rg_c (v := 5) (lo := 5) (hi := 5) (by decide)) (by decide)) (by decide))
                have b_247 : (gi (C 0) 15).toNatClampNeg < 5 := vp_lt n_246
                refine th_aald hx hb hK hP 12 2 (Nat.lt_of_lt_of_le (by decide) hn) (sM_12 hT) rfl n_246 dX7_statement_175 ?_
                refine lv_iconst (v := 0) hx hb dX7_statement_176 (by decide) ?_
                refine lv_iconst (v := 1) hx hb dX7_statement_177 (by decide) ?_
                refine lv_bipush (v := 99) hx hb dX7_statement_178 (by decide) ?_
                have : 0 ≤ (gi (C 0) 21).toInt ∧ (gi (C 0) 21).toInt ≤ 250 := fM_0_21 hT0
                have : 0 ≤ (gi (C 0) 7).toInt ∧ (gi (C 0) 7).toInt ≤ 250 := fM_0_7 hT0
                have : 0 ≤ (gi (C 0) 23).toInt ∧ (gi (C 0) 23).toInt ≤ 250 := fM_0_23 hT0
                have : 0 ≤ (gi (C 0) 13).toInt ∧ (gi (C 0) 13).toInt ≤ 5 := fM_0_13 hT0
                have : (16 : Int32).toInt = 16 := rfl
                have : (16 : Int32).toInt ≤ (gi (C 0) 11).toInt := Int32.le_iff_toInt_le.mp c_152
                have : (5 : Int32).toInt = 5 := rfl
                have : (5 : Int32).toInt ≤ (gi (C 0) 13).toInt := Int32.le_iff_toInt_le.mp c_212
                have : (gi (C 0) 15).toInt < (5 : Int32).toInt := Int32.lt_iff_toInt_lt.mp (Int32.not_le.mp c_231)
                refine tm_V (As := [.ref (G (3 + 31)), .ref (a (69 + (gi (C 0) 15).toNatClampNeg)), .int 0, .int 1, .int 99]) (rest := []) ⟨hx, hb, hml, hown, htg⟩ (c_X7_told l D E G _ a C n hn hT 31 (69 + (gi (C 0) 15).toNatClampNeg) (0 : Int32) (1 : Int32) (99 : Int32) (by decide) ⟨(lt_blk b_247 hn (by decide)), (by omega), 2, fun C h => (h.bpart b_247).1, (rg_in (rg_c (v := 0) (lo := 0) (hi := 0) (by decide)) (by decide)), fun C v h h1 h2 => (h.uppart b_247 (tA_upd (h.bpart b_247) tA_any))⟩ (by omega)) (cwV 5 htg (oh_gV q_1234 q_1236 q_45 q_73 q_1237) rfl rfl rfl pdVX7_told ⟨Nat.le_of_ble_eq_true rfl, Nat.le_of_ble_eq_true rfl⟩) hK hP hD hG hS hA (va_recv hK hP (ci := 7) (q0 := 0) rfl (oh_wg (Nat.lt_of_lt_of_le (by decide) hn) (sM_0 hT))) rfl hl.1 rfl (Nat.le_of_ble_eq_true rfl) dX7_statement_180 ⟨Nat.le_of_ble_eq_true rfl, Nat.le_of_ble_eq_true rfl⟩ (fun r_248 C_249 H locs hq_250 hP hD hS => ?_)
                obtain ⟨hT, f_251, hq_250⟩ := hq_250
                have hF := fr_trk hF f_251 (inR_of (p := (69, 74)) (by decide) (by show 69 ≤ _; omega) (by show _ < 74; omega)) (by decide)
                refine W.widen (k := 0) (n := 0) (Nat.le_refl _) (Nat.le_refl _) ?_
                have t_252 := hT
                refine lv_if_eq (tgt := 206) hx hb dX7_statement_183 (by decide) (fun (c_253 : r_248 = 0) => ?_) (fun (c_253 : ¬ (r_248 = 0)) => ?_)
                · refine lv_iconst (v := 0) hx hb dX7_statement_206 (by decide) ?_
                  have : (gi (C_249 0) 7).toInt = (gi (C 0) 7).toInt := congrArg (fun z => (vi z).toInt) (f_251.2 7 (by decide))
                  have : (gi (C_249 0) 13).toInt = (gi (C 0) 13).toInt := congrArg (fun z => (vi z).toInt) (f_251.2 13 (by decide))
                  have : 0 ≤ (gi (C_249 0) 21).toInt ∧ (gi (C_249 0) 21).toInt ≤ 250 := fM_0_21 t_252
                  have : 0 ≤ (gi (C_249 0) 7).toInt ∧ (gi (C_249 0) 7).toInt ≤ 250 := fM_0_7 t_252
                  have : 0 ≤ (gi (C_249 0) 23).toInt ∧ (gi (C_249 0) 23).toInt ≤ 250 := fM_0_23 t_252
                  have : 0 ≤ (gi (C_249 0) 13).toInt ∧ (gi (C_249 0) 13).toInt ≤ 5 := fM_0_13 t_252
                  rw [hQ]
                  exact W.zret (v := 0) (ty := .boolean) hx hb hr (by decide) (fun t ht hW => ⟨⟨0, C_249, rfl, ⟨hT, hF, ⟨(Or.inl rfl), ⟨hq_250.2.1.1, hq_250.2.1.2⟩, (fun h9 => absurd rfl h9), (RelW.fr hR (fr_trk (mc := [(69, 74)]) (mf := [21, 22, 23, 24, 25]) fr_rf f_251 (inR_of (p := (69, 74)) (by decide) (by show 69 ≤ _; omega) (by show _ < 74; omega)) (by decide)) (by decide)), (by omega)⟩⟩, ⟨by rw [ht]; exact hP, hD⟩⟩, hS.F ht⟩) hS.2.2 dX7_statement_207
                · have u_254 := hq_250.2.2.2.1 c_253
                  have u_255 := hq_250.2.2.2.2 c_253
                  refine lv_aload_n hx hb dX7_statement_186 rfl (lv_at hl 0 rfl) ?_
                  refine lv_aload_n hx hb dX7_statement_187 rfl (lv_at hl 0 rfl) ?_
                  refine va_get (D := D) (ci := 7) (v := .ref (a 12)) (C := RX7) (T := TX7) (N := 29) hx hb htg ig_7 hown hK hP 0 (oh_wg (Nat.lt_of_lt_of_le (by decide) hn) (sM_0 hT)) rfl 16 (by decide) (htg _ q_989) (fun _ h9 => h9) rfl dX7_statement_188 ?_
                  refine lv_aload_n hx hb dX7_statement_191 rfl (lv_at hl 0 rfl) ?_
                  refine va_get (D := D) (ci := 7) (v := .int (gi (C 0) 15)) (C := RX7) (T := TX7) (N := 29) hx hb htg ig_7 hown hK hP 0 (oh_wg (Nat.lt_of_lt_of_le (by decide) hn) (sM_0 hT)) rfl 15 (by decide) (htg _ q_988) (fun _ h9 => h9) (oh_fv (c := C_249 0) (j := 15) rfl (congrArg vi (f_251.2 15 (by decide)))) dX7_statement_192 ?_
                  have n_256 : vp_in (gi (C 0) 15) 5 := (rg_in (rn_ltu (u' := 4) (Int32.not_le.mp c_231) (fM_0_15 hT0) (rg_c (v := 5) (lo := 5) (hi := 5) (by decide)) (by decide)) (by decide))
                  have b_257 : (gi (C 0) 15).toNatClampNeg < 5 := vp_lt n_256
                  refine th_aald hx hb hK hP 12 2 (Nat.lt_of_lt_of_le (by decide) hn) (sM_12 hT) rfl n_256 dX7_statement_195 ?_
                  refine lv_iconst (v := 1) hx hb dX7_statement_196 (by decide) ?_
                  refine lv_iconst (v := 0) hx hb dX7_statement_197 (by decide) ?_
                  refine lv_bipush (v := 99) hx hb dX7_statement_198 (by decide) ?_
                  have : (gi (C_249 0) 7).toInt = (gi (C 0) 7).toInt := congrArg (fun z => (vi z).toInt) (f_251.2 7 (by decide))
                  have : (gi (C_249 0) 13).toInt = (gi (C 0) 13).toInt := congrArg (fun z => (vi z).toInt) (f_251.2 13 (by decide))
                  have : 0 ≤ (gi (C_249 0) 21).toInt ∧ (gi (C_249 0) 21).toInt ≤ 250 := fM_0_21 t_252
                  have : 0 ≤ (gi (C_249 0) 7).toInt ∧ (gi (C_249 0) 7).toInt ≤ 250 := fM_0_7 t_252
                  have : 0 ≤ (gi (C_249 0) 23).toInt ∧ (gi (C_249 0) 23).toInt ≤ 250 := fM_0_23 t_252
                  have : 0 ≤ (gi (C_249 0) 13).toInt ∧ (gi (C_249 0) 13).toInt ≤ 5 := fM_0_13 t_252
                  refine tm_V (As := [.ref (a (69 + (gi (C 0) 15).toNatClampNeg)), .int 1, .int 0, .int 99]) (rest := []) ⟨hx, hb, hml, hown, htg⟩ (c_X7_number l D E G _ a C_249 n hn hT (69 + (gi (C 0) 15).toNatClampNeg) (1 : Int32) (0 : Int32) (99 : Int32) ⟨(lt_blk b_257 hn (by decide)), (by omega), 2, fun C h => (h.bpart b_257).1, (rg_in (rg_c (v := 1) (lo := 1) (hi := 1) (by decide)) (by decide)), fun C v h h1 h2 => (h.uppart b_257 (tA_upd (h.bpart b_257) tA_any))⟩ (by omega)) (cwV 4 htg (oh_gV q_1225 q_1227 q_43 q_73 q_1228) rfl rfl rfl pdVX7_number ⟨Nat.le_of_ble_eq_true rfl, Nat.le_of_ble_eq_true rfl⟩) hK hP hD hG hS hA (va_recv hK hP (ci := 7) (q0 := 0) rfl (oh_wg (Nat.lt_of_lt_of_le (by decide) hn) (sM_0 hT))) rfl hl.1 rfl (Nat.le_of_ble_eq_true rfl) dX7_statement_200 ⟨Nat.le_of_ble_eq_true rfl, Nat.le_of_ble_eq_true rfl⟩ (fun r_258 C_259 H locs hq_260 hP hD hS => ?_)
                  obtain ⟨hT, f_261, hq_260⟩ := hq_260
                  have hF := fr_trk hF f_261 (inR_of (p := (69, 74)) (by decide) (by show 69 ≤ _; omega) (by show _ < 74; omega)) (by decide)
                  refine W.widen (k := 0) (n := 0) (Nat.le_refl _) (Nat.le_refl _) ?_
                  have t_262 := hT
                  refine lv_if_ne (tgt := 208) hx hb dX7_statement_203 (by decide) (fun (c_263 : ¬ (r_258 = 0)) => ?_) (fun (c_263 : r_258 = 0) => ?_)
                  · have u_264 := hq_260.2.2.2 c_263
                    refine lv_aload_n hx hb dX7_statement_208 rfl (lv_at hl 0 rfl) ?_
                    refine lv_dup hx hb dX7_statement_209 rfl ?_
                    refine va_get (D := D) (ci := 7) (v := .int (gi (C 0) 15)) (C := RX7) (T := TX7) (N := 29) hx hb htg ig_7 hown hK hP 0 (oh_wg (Nat.lt_of_lt_of_le (by decide) hn) (sM_0 hT)) rfl 15 (by decide) (htg _ q_988) (fun _ h9 => h9) (oh_fv (c := C_259 0) (j := 15) rfl (Eq.trans (congrArg vi (f_261.2 15 (by decide))) (congrArg vi (f_251.2 15 (by decide))))) dX7_statement_210 ?_
                    refine lv_iconst (v := 1) hx hb dX7_statement_213 (by decide) ?_
                    refine lv_iadd hx hb dX7_statement_214 ?_
                    refine th_put (Tp := TyM a E) (Rl := fr [(13, 14), (24, 48), (48, 64), (64, 69), (69, 74)] [9, 11, 13, 15, 21, 22, 23, 24, 25] C) (ci := 7) (v := .int ((gi (C 0) 15) + 1)) (ty := .int) (CC := RX7) (T := TX7) (N := 29) hx hb htg ig_7 tyX7 tyX7_ok nmX7 hown hK hP hD hS 0 (Nat.lt_of_lt_of_le (by decide) hn) (sM_0 hT) rfl 15 (by decide) (htg _ q_988) (fun _ h9 => h9) rfl (by decide +kernel) rfl rfl (Nat.le_of_ble_eq_true rfl) (hT.up 0 (by decide) ⟨rfl, (fM_0_7 hT), (fM_0_9 hT), (fM_0_11 hT), (fM_0_13 hT), (rg_w (rg_add (lo := 1) (hi := 5) (rn_ltu (u' := 4) (Int32.not_le.mp c_231) (fM_0_15 hT0) (rg_c (v := 5) (lo := 5) (hi := 5) (by decide)) (by decide)) (rg_c (v := 1) (lo := 1) (hi := 1) (by decide)) (by decide)) (by decide)), (fM_0_21 hT), (fM_0_23 hT)⟩) (fr_fd hF (sM_0 hT) (by decide)) dX7_statement_215 (fun C_265 H locs e_266 hT hF hP hD hS => ?_)
                    have t_267 := hT
                    refine lv_iconst (v := 1) hx hb dX7_statement_218 (by decide) ?_
                    have : (gi (C_259 0) 7).toInt = (gi (C_249 0) 7).toInt := congrArg (fun z => (vi z).toInt) (f_261.2 7 (by decide))
                    have : (gi (C_259 0) 13).toInt = (gi (C_249 0) 13).toInt := congrArg (fun z => (vi z).toInt) (f_261.2 13 (by decide))
                    have : (gi (C_265 0) 21).toInt = (gi (C_259 0) 21).toInt := congrArg Int32.toInt (show gi (C_265 0) 21 = gi (C_259 0) 21 by rw [e_266]; rfl)
                    have : (gi (C_265 0) 7).toInt = (gi (C_259 0) 7).toInt := congrArg Int32.toInt (show gi (C_265 0) 7 = gi (C_259 0) 7 by rw [e_266]; rfl)
                    have : (gi (C_265 0) 23).toInt = (gi (C_259 0) 23).toInt := congrArg Int32.toInt (show gi (C_265 0) 23 = gi (C_259 0) 23 by rw [e_266]; rfl)
                    have : (gi (C_265 0) 13).toInt = (gi (C_259 0) 13).toInt := congrArg Int32.toInt (show gi (C_265 0) 13 = gi (C_259 0) 13 by rw [e_266]; rfl)
                    have : 0 ≤ (gi (C_259 0) 21).toInt ∧ (gi (C_259 0) 21).toInt ≤ 250 := fM_0_21 t_262
                    have : 0 ≤ (gi (C_259 0) 7).toInt ∧ (gi (C_259 0) 7).toInt ≤ 250 := fM_0_7 t_262
                    have : 0 ≤ (gi (C_259 0) 23).toInt ∧ (gi (C_259 0) 23).toInt ≤ 250 := fM_0_23 t_262
                    have : 0 ≤ (gi (C_259 0) 13).toInt ∧ (gi (C_259 0) 13).toInt ≤ 5 := fM_0_13 t_262
                    have : 0 ≤ (gi (C_265 0) 21).toInt ∧ (gi (C_265 0) 21).toInt ≤ 250 := fM_0_21 t_267
                    have : 0 ≤ (gi (C_265 0) 7).toInt ∧ (gi (C_265 0) 7).toInt ≤ 250 := fM_0_7 t_267
                    have : 0 ≤ (gi (C_265 0) 23).toInt ∧ (gi (C_265 0) 23).toInt ≤ 250 := fM_0_23 t_267
                    have : 0 ≤ (gi (C_265 0) 13).toInt ∧ (gi (C_265 0) 13).toInt ≤ 5 := fM_0_13 t_267
                    rw [hQ]
                    exact W.zret (v := 1) (ty := .boolean) hx hb hr (by decide) (fun t ht hW => ⟨⟨1, C_265, rfl, ⟨hT, hF, ⟨(Or.inr rfl), ⟨(by omega), (by omega)⟩, (fun _ => (by omega)), (RelW.fr (RelW.fr (RelW.fr hR (fr_trk (mc := [(69, 74)]) (mf := [21, 22, 23, 24, 25]) fr_rf f_251 (inR_of (p := (69, 74)) (by decide) (by show 69 ≤ _; omega) (by show _ < 74; omega)) (by decide)) (by decide)) (fr_trk (mc := [(69, 74)]) (mf := [21, 22, 23, 24, 25]) fr_rf f_261 (inR_of (p := (69, 74)) (by decide) (by show 69 ≤ _; omega) (by show _ < 74; omega)) (by decide)) (by decide)) (fr_fde (mc := []) (mf := [15]) fr_rf e_266 (sM_0 t_262) (by decide)) (by decide)), (by omega)⟩⟩, ⟨by rw [ht]; exact hP, hD⟩⟩, hS.F ht⟩) hS.2.2 dX7_statement_219
                  · refine lv_iconst (v := 0) hx hb dX7_statement_206 (by decide) ?_
                    have : (gi (C_259 0) 7).toInt = (gi (C_249 0) 7).toInt := congrArg (fun z => (vi z).toInt) (f_261.2 7 (by decide))
                    have : (gi (C_259 0) 13).toInt = (gi (C_249 0) 13).toInt := congrArg (fun z => (vi z).toInt) (f_261.2 13 (by decide))
                    have : 0 ≤ (gi (C_259 0) 21).toInt ∧ (gi (C_259 0) 21).toInt ≤ 250 := fM_0_21 t_262
                    have : 0 ≤ (gi (C_259 0) 7).toInt ∧ (gi (C_259 0) 7).toInt ≤ 250 := fM_0_7 t_262
                    have : 0 ≤ (gi (C_259 0) 23).toInt ∧ (gi (C_259 0) 23).toInt ≤ 250 := fM_0_23 t_262
                    have : 0 ≤ (gi (C_259 0) 13).toInt ∧ (gi (C_259 0) 13).toInt ≤ 5 := fM_0_13 t_262
                    rw [hQ]
                    exact W.zret (v := 0) (ty := .boolean) hx hb hr (by decide) (fun t ht hW => ⟨⟨0, C_259, rfl, ⟨hT, hF, ⟨(Or.inl rfl), ⟨(by omega), hq_260.2.1.2⟩, (fun h9 => absurd rfl h9), (RelW.fr (RelW.fr hR (fr_trk (mc := [(69, 74)]) (mf := [21, 22, 23, 24, 25]) fr_rf f_251 (inR_of (p := (69, 74)) (by decide) (by show 69 ≤ _; omega) (by show _ < 74; omega)) (by decide)) (by decide)) (fr_trk (mc := [(69, 74)]) (mf := [21, 22, 23, 24, 25]) fr_rf f_261 (inR_of (p := (69, 74)) (by decide) (by show 69 ≤ _; omega) (by show _ < 74; omega)) (by decide)) (by decide)), (by omega)⟩⟩, ⟨by rw [ht]; exact hP, hD⟩⟩, hS.F ht⟩) hS.2.2 dX7_statement_207
          · refine lv_aload_n hx hb dX7_statement_81 rfl (lv_at hl 0 rfl) ?_
            refine va_get (D := D) (ci := 7) (v := .ref (a 11)) (C := RX7) (T := TX7) (N := 29) hx hb htg ig_7 hown hK hP 0 (oh_wg (Nat.lt_of_lt_of_le (by decide) hn) (sM_0 hT)) rfl 14 (by decide) (htg _ q_987) (fun _ h9 => h9) rfl dX7_statement_82 ?_
            refine lv_aload_n hx hb dX7_statement_85 rfl (lv_at hl 0 rfl) ?_
            refine va_get (D := D) (ci := 7) (v := .int (gi (C 0) 13)) (C := RX7) (T := TX7) (N := 29) hx hb htg ig_7 hown hK hP 0 (oh_wg (Nat.lt_of_lt_of_le (by decide) hn) (sM_0 hT)) rfl 13 (by decide) (htg _ q_986) (fun _ h9 => h9) rfl dX7_statement_86 ?_
            have n_268 : vp_in (gi (C 0) 13) 5 := (rg_in (rn_ltu (u' := 4) (Int32.not_le.mp c_212) (fM_0_13 hT0) (rg_c (v := 5) (lo := 5) (hi := 5) (by decide)) (by decide)) (by decide))
            have b_269 : (gi (C 0) 13).toNatClampNeg < 5 := vp_lt n_268
            refine th_aald hx hb hK hP 11 2 (Nat.lt_of_lt_of_le (by decide) hn) (sM_11 hT) rfl n_268 dX7_statement_89 ?_
            refine lv_astore_n (lv' := [(1, .ref (a (64 + (gi (C 0) 13).toNatClampNeg))), (0, .ref (a 0))]) hx hb dX7_statement_90 rfl hl (by decide) rfl (fun ls hl => ?_)
            refine lv_aload_n hx hb dX7_statement_91 rfl (lv_at hl 1 rfl) ?_
            refine va_ldcS hx hb hown (hG.2.2.1 ("OneHeavyLoadModel", 209, "waggon", 31) (List.mem_of_getElem? (i := 28) rfl)) dX7_statement_92 ?_
            refine lv_aload_n hx hb dX7_statement_94 rfl (lv_at hl 0 rfl) ?_
            refine lv_iconst (v := 0) hx hb dX7_statement_95 (by decide) ?_
            refine lv_iconst (v := 2) hx hb dX7_statement_96 (by decide) ?_
            refine lv_bipush (v := 12) hx hb dX7_statement_97 (by decide) ?_
            have : 0 ≤ (gi (C 0) 21).toInt ∧ (gi (C 0) 21).toInt ≤ 250 := fM_0_21 hT0
            have : 0 ≤ (gi (C 0) 7).toInt ∧ (gi (C 0) 7).toInt ≤ 250 := fM_0_7 hT0
            have : 0 ≤ (gi (C 0) 23).toInt ∧ (gi (C 0) 23).toInt ≤ 250 := fM_0_23 hT0
            have : 0 ≤ (gi (C 0) 13).toInt ∧ (gi (C 0) 13).toInt ≤ 5 := fM_0_13 hT0
            have : (16 : Int32).toInt = 16 := rfl
            have : (16 : Int32).toInt ≤ (gi (C 0) 11).toInt := Int32.le_iff_toInt_le.mp c_152
            have : (5 : Int32).toInt = 5 := rfl
            have : (gi (C 0) 13).toInt < (5 : Int32).toInt := Int32.lt_iff_toInt_lt.mp (Int32.not_le.mp c_212)
            refine tm_V (As := [.ref (G (3 + 28)), .ref (a (64 + (gi (C 0) 13).toNatClampNeg)), .int 0, .int 2, .int 12]) (rest := []) ⟨hx, hb, hml, hown, htg⟩ (c_X7_told l D E G _ a C n hn hT 28 (64 + (gi (C 0) 13).toNatClampNeg) (0 : Int32) (2 : Int32) (12 : Int32) (by decide) ⟨(lt_blk b_269 hn (by decide)), (by omega), 3, fun C h => (h.bwaggon b_269).1, (rg_in (rg_c (v := 0) (lo := 0) (hi := 0) (by decide)) (by decide)), fun C v h h1 h2 => (h.upwaggon b_269 (tA_upd (h.bwaggon b_269) (tA_stc (k := 0) (by decide) (oh_rgle (lo := 0) (hi := 12) h1 h2 (by decide)) (by decide))))⟩ (by omega)) (cwV 5 htg (oh_gV q_1234 q_1236 q_45 q_73 q_1237) rfl rfl rfl pdVX7_told ⟨Nat.le_of_ble_eq_true rfl, Nat.le_of_ble_eq_true rfl⟩) hK hP hD hG hS hA (va_recv hK hP (ci := 7) (q0 := 0) rfl (oh_wg (Nat.lt_of_lt_of_le (by decide) hn) (sM_0 hT))) rfl hl.1 rfl (Nat.le_of_ble_eq_true rfl) dX7_statement_99 ⟨Nat.le_of_ble_eq_true rfl, Nat.le_of_ble_eq_true rfl⟩ (fun r_270 C_271 H locs hq_272 hP hD hS => ?_)
            obtain ⟨hT, f_273, hq_272⟩ := hq_272
            have hF := fr_trk hF f_273 (inR_of (p := (64, 69)) (by decide) (by show 64 ≤ _; omega) (by show _ < 69; omega)) (by decide)
            refine W.widen (k := 0) (n := 0) (Nat.le_refl _) (Nat.le_refl _) ?_
            have t_274 := hT
            refine lv_if_eq (tgt := 133) hx hb dX7_statement_102 (by decide) (fun (c_275 : r_270 = 0) => ?_) (fun (c_275 : ¬ (r_270 = 0)) => ?_)
            · refine lv_iconst (v := 0) hx hb dX7_statement_133 (by decide) ?_
              have : (gi (C_271 0) 7).toInt = (gi (C 0) 7).toInt := congrArg (fun z => (vi z).toInt) (f_273.2 7 (by decide))
              have : (gi (C_271 0) 13).toInt = (gi (C 0) 13).toInt := congrArg (fun z => (vi z).toInt) (f_273.2 13 (by decide))
              have : 0 ≤ (gi (C_271 0) 21).toInt ∧ (gi (C_271 0) 21).toInt ≤ 250 := fM_0_21 t_274
              have : 0 ≤ (gi (C_271 0) 7).toInt ∧ (gi (C_271 0) 7).toInt ≤ 250 := fM_0_7 t_274
              have : 0 ≤ (gi (C_271 0) 23).toInt ∧ (gi (C_271 0) 23).toInt ≤ 250 := fM_0_23 t_274
              have : 0 ≤ (gi (C_271 0) 13).toInt ∧ (gi (C_271 0) 13).toInt ≤ 5 := fM_0_13 t_274
              rw [hQ]
              exact W.zret (v := 0) (ty := .boolean) hx hb hr (by decide) (fun t ht hW => ⟨⟨0, C_271, rfl, ⟨hT, hF, ⟨(Or.inl rfl), ⟨hq_272.2.1.1, hq_272.2.1.2⟩, (fun h9 => absurd rfl h9), (relW_row (w := (gi (C 0) 13).toNatClampNeg) hR f_273 (oh_nat (fM_0_13 hT0) (by decide)) (by decide)), (by omega)⟩⟩, ⟨by rw [ht]; exact hP, hD⟩⟩, hS.F ht⟩) hS.2.2 dX7_statement_134
            · have u_276 := hq_272.2.2.2.1 c_275
              have u_277 := hq_272.2.2.2.2 c_275
              refine lv_aload_n hx hb dX7_statement_105 rfl (lv_at hl 1 rfl) ?_
              refine va_ldcS hx hb hown (hG.2.2.1 ("OneHeavyLoadModel", 210, "space", 32) (List.mem_of_getElem? (i := 29) rfl)) dX7_statement_106 ?_
              refine lv_aload_n hx hb dX7_statement_108 rfl (lv_at hl 0 rfl) ?_
              refine lv_iconst (v := 1) hx hb dX7_statement_109 (by decide) ?_
              refine lv_iconst (v := 1) hx hb dX7_statement_110 (by decide) ?_
              refine lv_bipush (v := 9) hx hb dX7_statement_111 (by decide) ?_
              have : (gi (C_271 0) 7).toInt = (gi (C 0) 7).toInt := congrArg (fun z => (vi z).toInt) (f_273.2 7 (by decide))
              have : (gi (C_271 0) 13).toInt = (gi (C 0) 13).toInt := congrArg (fun z => (vi z).toInt) (f_273.2 13 (by decide))
              have : 0 ≤ (gi (C_271 0) 21).toInt ∧ (gi (C_271 0) 21).toInt ≤ 250 := fM_0_21 t_274
              have : 0 ≤ (gi (C_271 0) 7).toInt ∧ (gi (C_271 0) 7).toInt ≤ 250 := fM_0_7 t_274
              have : 0 ≤ (gi (C_271 0) 23).toInt ∧ (gi (C_271 0) 23).toInt ≤ 250 := fM_0_23 t_274
              have : 0 ≤ (gi (C_271 0) 13).toInt ∧ (gi (C_271 0) 13).toInt ≤ 5 := fM_0_13 t_274
              refine tm_V (As := [.ref (G (3 + 29)), .ref (a (64 + (gi (C 0) 13).toNatClampNeg)), .int 1, .int 1, .int 9]) (rest := []) ⟨hx, hb, hml, hown, htg⟩ (c_X7_told l D E G _ a C_271 n hn hT 29 (64 + (gi (C 0) 13).toNatClampNeg) (1 : Int32) (1 : Int32) (9 : Int32) (by decide) ⟨(lt_blk b_269 hn (by decide)), (by omega), 3, fun C h => (h.bwaggon b_269).1, (rg_in (rg_c (v := 1) (lo := 1) (hi := 1) (by decide)) (by decide)), fun C v h h1 h2 => (h.upwaggon b_269 (tA_upd (h.bwaggon b_269) (tA_stc (k := 1) (by decide) (oh_rgle (lo := 0) (hi := 9) h1 h2 (by decide)) (by decide))))⟩ (by omega)) (cwV 5 htg (oh_gV q_1234 q_1236 q_45 q_73 q_1237) rfl rfl rfl pdVX7_told ⟨Nat.le_of_ble_eq_true rfl, Nat.le_of_ble_eq_true rfl⟩) hK hP hD hG hS hA (va_recv hK hP (ci := 7) (q0 := 0) rfl (oh_wg (Nat.lt_of_lt_of_le (by decide) hn) (sM_0 hT))) rfl hl.1 rfl (Nat.le_of_ble_eq_true rfl) dX7_statement_113 ⟨Nat.le_of_ble_eq_true rfl, Nat.le_of_ble_eq_true rfl⟩ (fun r_278 C_279 H locs hq_280 hP hD hS => ?_)
              obtain ⟨hT, f_281, hq_280⟩ := hq_280
              have hF := fr_trk hF f_281 (inR_of (p := (64, 69)) (by decide) (by show 64 ≤ _; omega) (by show _ < 69; omega)) (by decide)
              refine W.widen (k := 0) (n := 0) (Nat.le_refl _) (Nat.le_refl _) ?_
              have t_282 := hT
              refine lv_if_eq (tgt := 133) hx hb dX7_statement_116 (by decide) (fun (c_283 : r_278 = 0) => ?_) (fun (c_283 : ¬ (r_278 = 0)) => ?_)
              · refine lv_iconst (v := 0) hx hb dX7_statement_133 (by decide) ?_
                have : (gi (C_279 0) 7).toInt = (gi (C_271 0) 7).toInt := congrArg (fun z => (vi z).toInt) (f_281.2 7 (by decide))
                have : (gi (C_279 0) 13).toInt = (gi (C_271 0) 13).toInt := congrArg (fun z => (vi z).toInt) (f_281.2 13 (by decide))
                have : 0 ≤ (gi (C_279 0) 21).toInt ∧ (gi (C_279 0) 21).toInt ≤ 250 := fM_0_21 t_282
                have : 0 ≤ (gi (C_279 0) 7).toInt ∧ (gi (C_279 0) 7).toInt ≤ 250 := fM_0_7 t_282
                have : 0 ≤ (gi (C_279 0) 23).toInt ∧ (gi (C_279 0) 23).toInt ≤ 250 := fM_0_23 t_282
                have : 0 ≤ (gi (C_279 0) 13).toInt ∧ (gi (C_279 0) 13).toInt ≤ 5 := fM_0_13 t_282
                rw [hQ]
                exact W.zret (v := 0) (ty := .boolean) hx hb hr (by decide) (fun t ht hW => ⟨⟨0, C_279, rfl, ⟨hT, hF, ⟨(Or.inl rfl), ⟨(by omega), hq_280.2.1.2⟩, (fun h9 => absurd rfl h9), (relW_row (w := (gi (C 0) 13).toNatClampNeg) (relW_row (w := (gi (C 0) 13).toNatClampNeg) hR f_273 (oh_nat (fM_0_13 hT0) (by decide)) (by decide)) f_281 (by rw [(show gi (C_271 0) 13 = gi (C 0) 13 from congrArg vi (f_273.2 13 (by decide)))]; exact oh_nat (fM_0_13 hT0) (by decide)) (by decide)), (by omega)⟩⟩, ⟨by rw [ht]; exact hP, hD⟩⟩, hS.F ht⟩) hS.2.2 dX7_statement_134
              · have u_284 := hq_280.2.2.2.1 c_283
                have u_285 := hq_280.2.2.2.2 c_283
                refine lv_aload_n hx hb dX7_statement_119 rfl (lv_at hl 1 rfl) ?_
                refine va_ldcS hx hb hown (hG.2.2.1 ("OneHeavyLoadModel", 212, "tare", 33) (List.mem_of_getElem? (i := 30) rfl)) dX7_statement_120 ?_
                refine lv_aload_n hx hb dX7_statement_122 rfl (lv_at hl 0 rfl) ?_
                refine lv_iconst (v := 2) hx hb dX7_statement_123 (by decide) ?_
                refine lv_iconst (v := 0) hx hb dX7_statement_124 (by decide) ?_
                refine lv_bipush (v := 99) hx hb dX7_statement_125 (by decide) ?_
                have : (gi (C_279 0) 7).toInt = (gi (C_271 0) 7).toInt := congrArg (fun z => (vi z).toInt) (f_281.2 7 (by decide))
                have : (gi (C_279 0) 13).toInt = (gi (C_271 0) 13).toInt := congrArg (fun z => (vi z).toInt) (f_281.2 13 (by decide))
                have : 0 ≤ (gi (C_279 0) 21).toInt ∧ (gi (C_279 0) 21).toInt ≤ 250 := fM_0_21 t_282
                have : 0 ≤ (gi (C_279 0) 7).toInt ∧ (gi (C_279 0) 7).toInt ≤ 250 := fM_0_7 t_282
                have : 0 ≤ (gi (C_279 0) 23).toInt ∧ (gi (C_279 0) 23).toInt ≤ 250 := fM_0_23 t_282
                have : 0 ≤ (gi (C_279 0) 13).toInt ∧ (gi (C_279 0) 13).toInt ≤ 5 := fM_0_13 t_282
                refine tm_V (As := [.ref (G (3 + 30)), .ref (a (64 + (gi (C 0) 13).toNatClampNeg)), .int 2, .int 0, .int 99]) (rest := []) ⟨hx, hb, hml, hown, htg⟩ (c_X7_told l D E G _ a C_279 n hn hT 30 (64 + (gi (C 0) 13).toNatClampNeg) (2 : Int32) (0 : Int32) (99 : Int32) (by decide) ⟨(lt_blk b_269 hn (by decide)), (by omega), 3, fun C h => (h.bwaggon b_269).1, (rg_in (rg_c (v := 2) (lo := 2) (hi := 2) (by decide)) (by decide)), fun C v h h1 h2 => (h.upwaggon b_269 (tA_upd (h.bwaggon b_269) (tA_stc (k := 2) (by decide) (rg_any _) (by decide))))⟩ (by omega)) (cwV 5 htg (oh_gV q_1234 q_1236 q_45 q_73 q_1237) rfl rfl rfl pdVX7_told ⟨Nat.le_of_ble_eq_true rfl, Nat.le_of_ble_eq_true rfl⟩) hK hP hD hG hS hA (va_recv hK hP (ci := 7) (q0 := 0) rfl (oh_wg (Nat.lt_of_lt_of_le (by decide) hn) (sM_0 hT))) rfl hl.1 rfl (Nat.le_of_ble_eq_true rfl) dX7_statement_127 ⟨Nat.le_of_ble_eq_true rfl, Nat.le_of_ble_eq_true rfl⟩ (fun r_286 C_287 H locs hq_288 hP hD hS => ?_)
                obtain ⟨hT, f_289, hq_288⟩ := hq_288
                have hF := fr_trk hF f_289 (inR_of (p := (64, 69)) (by decide) (by show 64 ≤ _; omega) (by show _ < 69; omega)) (by decide)
                refine W.widen (k := 0) (n := 0) (Nat.le_refl _) (Nat.le_refl _) ?_
                have t_290 := hT
                refine lv_if_ne (tgt := 135) hx hb dX7_statement_130 (by decide) (fun (c_291 : ¬ (r_286 = 0)) => ?_) (fun (c_291 : r_286 = 0) => ?_)
                · have u_292 := hq_288.2.2.2.1 c_291
                  have u_293 := hq_288.2.2.2.2 c_291
                  refine lv_aload_n hx hb dX7_statement_135 rfl (lv_at hl 1 rfl) ?_
                  refine lv_dup hx hb dX7_statement_136 rfl ?_
                  refine va_get (D := D) (ci := 7) (v := .int (gi (C 0) 13)) (C := RX7) (T := TX7) (N := 29) hx hb htg ig_7 hown hK hP 0 (oh_wg (Nat.lt_of_lt_of_le (by decide) hn) (sM_0 hT)) rfl 13 (by decide) (htg _ q_986) (fun _ h9 => h9) (oh_fv (c := C_287 0) (j := 13) rfl (Eq.trans (congrArg vi (f_289.2 13 (by decide))) (Eq.trans (congrArg vi (f_281.2 13 (by decide))) (congrArg vi (f_273.2 13 (by decide)))))) dX7_statement_137 ?_
                  refine lv_iconst (v := 1) hx hb dX7_statement_140 (by decide) ?_
                  refine lv_iadd hx hb dX7_statement_141 ?_
                  refine th_put (Tp := TyM a E) (Rl := fr [(13, 14), (24, 48), (48, 64), (64, 69), (69, 74)] [9, 11, 13, 15, 21, 22, 23, 24, 25] C) (ci := 7) (v := .int ((gi (C 0) 13) + 1)) (ty := .int) (CC := RX7) (T := TX7) (N := 29) hx hb htg ig_7 tyX7 tyX7_ok nmX7 hown hK hP hD hS 0 (Nat.lt_of_lt_of_le (by decide) hn) (sM_0 hT) rfl 13 (by decide) (htg _ q_986) (fun _ h9 => h9) rfl (by decide +kernel) rfl rfl (Nat.le_of_ble_eq_true rfl) (hT.up 0 (by decide) ⟨rfl, (fM_0_7 hT), (fM_0_9 hT), (fM_0_11 hT), (rg_w (rg_add (lo := 1) (hi := 5) (rn_ltu (u' := 4) (Int32.not_le.mp c_212) (fM_0_13 hT0) (rg_c (v := 5) (lo := 5) (hi := 5) (by decide)) (by decide)) (rg_c (v := 1) (lo := 1) (hi := 1) (by decide)) (by decide)) (by decide)), (fM_0_15 hT), (fM_0_21 hT), (fM_0_23 hT)⟩) (fr_fd hF (sM_0 hT) (by decide)) dX7_statement_142 (fun C_294 H locs e_295 hT hF hP hD hS => ?_)
                  have t_296 := hT
                  refine lv_iconst (v := 1) hx hb dX7_statement_145 (by decide) ?_
                  have : (gi (C_287 0) 7).toInt = (gi (C_279 0) 7).toInt := congrArg (fun z => (vi z).toInt) (f_289.2 7 (by decide))
                  have : (gi (C_287 0) 13).toInt = (gi (C_279 0) 13).toInt := congrArg (fun z => (vi z).toInt) (f_289.2 13 (by decide))
                  have : (gi (C_294 0) 21).toInt = (gi (C_287 0) 21).toInt := congrArg Int32.toInt (show gi (C_294 0) 21 = gi (C_287 0) 21 by rw [e_295]; rfl)
                  have : (gi (C_294 0) 7).toInt = (gi (C_287 0) 7).toInt := congrArg Int32.toInt (show gi (C_294 0) 7 = gi (C_287 0) 7 by rw [e_295]; rfl)
                  have : (gi (C_294 0) 23).toInt = (gi (C_287 0) 23).toInt := congrArg Int32.toInt (show gi (C_294 0) 23 = gi (C_287 0) 23 by rw [e_295]; rfl)
                  have : (gi (C_294 0) 13).toInt = ((gi (C 0) 13) + 1).toInt := congrArg Int32.toInt (show gi (C_294 0) 13 = ((gi (C 0) 13) + 1) by rw [e_295]; rfl)
                  have : ((gi (C 0) 13) + 1).toInt = (gi (C 0) 13).toInt + 1 := oh_incr (rn_ltu (u' := 4) (Int32.not_le.mp c_212) (fM_0_13 hT0) (rg_c (v := 5) (lo := 5) (hi := 5) (by decide)) (by decide)) (by decide)
                  have : 0 ≤ (gi (C_287 0) 21).toInt ∧ (gi (C_287 0) 21).toInt ≤ 250 := fM_0_21 t_290
                  have : 0 ≤ (gi (C_287 0) 7).toInt ∧ (gi (C_287 0) 7).toInt ≤ 250 := fM_0_7 t_290
                  have : 0 ≤ (gi (C_287 0) 23).toInt ∧ (gi (C_287 0) 23).toInt ≤ 250 := fM_0_23 t_290
                  have : 0 ≤ (gi (C_287 0) 13).toInt ∧ (gi (C_287 0) 13).toInt ≤ 5 := fM_0_13 t_290
                  have : 0 ≤ (gi (C_294 0) 21).toInt ∧ (gi (C_294 0) 21).toInt ≤ 250 := fM_0_21 t_296
                  have : 0 ≤ (gi (C_294 0) 7).toInt ∧ (gi (C_294 0) 7).toInt ≤ 250 := fM_0_7 t_296
                  have : 0 ≤ (gi (C_294 0) 23).toInt ∧ (gi (C_294 0) 23).toInt ≤ 250 := fM_0_23 t_296
                  have : 0 ≤ (gi (C_294 0) 13).toInt ∧ (gi (C_294 0) 13).toInt ≤ 5 := fM_0_13 t_296
                  rw [hQ]
                  exact W.zret (v := 1) (ty := .boolean) hx hb hr (by decide) (fun t ht hW => ⟨⟨1, C_294, rfl, ⟨hT, hF, ⟨(Or.inr rfl), ⟨(by omega), (by omega)⟩, (fun _ => (by omega)), (relW_inc (w := (gi (C 0) 13).toNatClampNeg) (relW_row (w := (gi (C 0) 13).toNatClampNeg) (relW_row (w := (gi (C 0) 13).toNatClampNeg) (relW_row (w := (gi (C 0) 13).toNatClampNeg) hR f_273 (oh_nat (fM_0_13 hT0) (by decide)) (by decide)) f_281 (by rw [(show gi (C_271 0) 13 = gi (C 0) 13 from congrArg vi (f_273.2 13 (by decide)))]; exact oh_nat (fM_0_13 hT0) (by decide)) (by decide)) f_289 (by rw [(Eq.trans (show gi (C_279 0) 13 = gi (C_271 0) 13 from congrArg vi (f_281.2 13 (by decide))) (show gi (C_271 0) 13 = gi (C 0) 13 from congrArg vi (f_273.2 13 (by decide))))]; exact oh_nat (fM_0_13 hT0) (by decide)) (by decide)) (by rw [(Eq.trans (show gi (C_287 0) 13 = gi (C_279 0) 13 from congrArg vi (f_289.2 13 (by decide))) (Eq.trans (show gi (C_279 0) 13 = gi (C_271 0) 13 from congrArg vi (f_281.2 13 (by decide))) (show gi (C_271 0) 13 = gi (C 0) 13 from congrArg vi (f_273.2 13 (by decide)))))]; exact oh_nat (fM_0_13 hT0) (by decide)) (fun k hk => th_un e_295 hk) (Eq.trans (congrArg Int32.toInt (show gi (C_294 0) 13 = (gi (C 0) 13) + 1 by rw [e_295]; rfl)) (by rw [(Eq.trans (show gi (C_287 0) 13 = gi (C_279 0) 13 from congrArg vi (f_289.2 13 (by decide))) (Eq.trans (show gi (C_279 0) 13 = gi (C_271 0) 13 from congrArg vi (f_281.2 13 (by decide))) (show gi (C_271 0) 13 = gi (C 0) 13 from congrArg vi (f_273.2 13 (by decide)))))]; exact oh_inc13 (fM_0_13 hT0))) (by rw [hq_288.2.2.1 _ (by decide), hq_280.2.2.1 _ (by decide)]; exact Int.le_trans (by decide) u_276) (by rw [hq_288.2.2.1 _ (by decide)]; exact Int.le_trans (by decide) u_284)), (by omega)⟩⟩, ⟨by rw [ht]; exact hP, hD⟩⟩, hS.F ht⟩) hS.2.2 dX7_statement_146
                · refine lv_iconst (v := 0) hx hb dX7_statement_133 (by decide) ?_
                  have : (gi (C_287 0) 7).toInt = (gi (C_279 0) 7).toInt := congrArg (fun z => (vi z).toInt) (f_289.2 7 (by decide))
                  have : (gi (C_287 0) 13).toInt = (gi (C_279 0) 13).toInt := congrArg (fun z => (vi z).toInt) (f_289.2 13 (by decide))
                  have : 0 ≤ (gi (C_287 0) 21).toInt ∧ (gi (C_287 0) 21).toInt ≤ 250 := fM_0_21 t_290
                  have : 0 ≤ (gi (C_287 0) 7).toInt ∧ (gi (C_287 0) 7).toInt ≤ 250 := fM_0_7 t_290
                  have : 0 ≤ (gi (C_287 0) 23).toInt ∧ (gi (C_287 0) 23).toInt ≤ 250 := fM_0_23 t_290
                  have : 0 ≤ (gi (C_287 0) 13).toInt ∧ (gi (C_287 0) 13).toInt ≤ 5 := fM_0_13 t_290
                  rw [hQ]
                  exact W.zret (v := 0) (ty := .boolean) hx hb hr (by decide) (fun t ht hW => ⟨⟨0, C_287, rfl, ⟨hT, hF, ⟨(Or.inl rfl), ⟨(by omega), hq_288.2.1.2⟩, (fun h9 => absurd rfl h9), (relW_row (w := (gi (C 0) 13).toNatClampNeg) (relW_row (w := (gi (C 0) 13).toNatClampNeg) (relW_row (w := (gi (C 0) 13).toNatClampNeg) hR f_273 (oh_nat (fM_0_13 hT0) (by decide)) (by decide)) f_281 (by rw [(show gi (C_271 0) 13 = gi (C 0) 13 from congrArg vi (f_273.2 13 (by decide)))]; exact oh_nat (fM_0_13 hT0) (by decide)) (by decide)) f_289 (by rw [(Eq.trans (show gi (C_279 0) 13 = gi (C_271 0) 13 from congrArg vi (f_281.2 13 (by decide))) (show gi (C_271 0) 13 = gi (C 0) 13 from congrArg vi (f_273.2 13 (by decide))))]; exact oh_nat (fM_0_13 hT0) (by decide)) (by decide)), (by omega)⟩⟩, ⟨by rw [ht]; exact hP, hD⟩⟩, hS.F ht⟩) hS.2.2 dX7_statement_134
      · refine lv_aload_n hx hb dX7_statement_50 rfl (lv_at hl 0 rfl) ?_
        refine lv_aload_n hx hb dX7_statement_51 rfl (lv_at hl 0 rfl) ?_
        refine va_get (D := D) (ci := 7) (v := .ref (a 10)) (C := RX7) (T := TX7) (N := 29) hx hb htg ig_7 hown hK hP 0 (oh_wg (Nat.lt_of_lt_of_le (by decide) hn) (sM_0 hT)) rfl 12 (by decide) (htg _ q_985) (fun _ h9 => h9) rfl dX7_statement_52 ?_
        refine lv_aload_n hx hb dX7_statement_55 rfl (lv_at hl 0 rfl) ?_
        refine va_get (D := D) (ci := 7) (v := .int (gi (C 0) 11)) (C := RX7) (T := TX7) (N := 29) hx hb htg ig_7 hown hK hP 0 (oh_wg (Nat.lt_of_lt_of_le (by decide) hn) (sM_0 hT)) rfl 11 (by decide) (htg _ q_984) (fun _ h9 => h9) rfl dX7_statement_56 ?_
        have n_297 : vp_in (gi (C 0) 11) 16 := (rg_in (rn_ltu (u' := 15) (Int32.not_le.mp c_152) (fM_0_11 hT0) (rg_c (v := 16) (lo := 16) (hi := 16) (by decide)) (by decide)) (by decide))
        have b_298 : (gi (C 0) 11).toNatClampNeg < 16 := vp_lt n_297
        refine th_aald hx hb hK hP 10 2 (Nat.lt_of_lt_of_le (by decide) hn) (sM_10 hT) rfl n_297 dX7_statement_59 ?_
        have : 0 ≤ (gi (C 0) 21).toInt ∧ (gi (C 0) 21).toInt ≤ 250 := fM_0_21 hT0
        have : 0 ≤ (gi (C 0) 7).toInt ∧ (gi (C 0) 7).toInt ≤ 250 := fM_0_7 hT0
        have : 0 ≤ (gi (C 0) 23).toInt ∧ (gi (C 0) 23).toInt ≤ 250 := fM_0_23 hT0
        have : 0 ≤ (gi (C 0) 13).toInt ∧ (gi (C 0) 13).toInt ≤ 5 := fM_0_13 hT0
        have : (16 : Int32).toInt = 16 := rfl
        have : (gi (C 0) 11).toInt < (16 : Int32).toInt := Int32.lt_iff_toInt_lt.mp (Int32.not_le.mp c_152)
        refine tm_V (As := [.ref (a (48 + (gi (C 0) 11).toNatClampNeg))]) (rest := []) ⟨hx, hb, hml, hown, htg⟩ (c_X7_bridgeTold l D E G _ a C n hn hT (rg_w (lo := 0) (hi := 15) (rn_ltu (u' := 15) (Int32.not_le.mp c_152) (fM_0_11 hT0) (rg_c (v := 16) (lo := 16) (hi := 16) (by decide)) (by decide)) (by decide)) (by omega)) (cwV 1 htg (oh_gV q_1246 q_1248 q_47 q_73 q_1249) rfl rfl rfl pdVX7_bridgeTold ⟨Nat.le_of_ble_eq_true rfl, Nat.le_of_ble_eq_true rfl⟩) hK hP hD hG hS hA (va_recv hK hP (ci := 7) (q0 := 0) rfl (oh_wg (Nat.lt_of_lt_of_le (by decide) hn) (sM_0 hT))) rfl hl.1 rfl (Nat.le_of_ble_eq_true rfl) dX7_statement_60 ⟨Nat.le_of_ble_eq_true rfl, Nat.le_of_ble_eq_true rfl⟩ (fun r_299 C_300 H locs hq_301 hP hD hS => ?_)
        obtain ⟨hT, f_302, hq_301⟩ := hq_301
        have hF := fr_tr hF f_302 (by decide) (by decide)
        refine W.widen (k := 0) (n := 0) (Nat.le_refl _) (Nat.le_refl _) ?_
        have t_303 := hT
        have : (gi (C_300 0) 7).toInt = (gi (C 0) 7).toInt := congrArg (fun z => (vi z).toInt) (f_302.2 7 (by decide))
        have : (gi (C_300 0) 13).toInt = (gi (C 0) 13).toInt := congrArg (fun z => (vi z).toInt) (f_302.2 13 (by decide))
        have : 0 ≤ (gi (C_300 0) 21).toInt ∧ (gi (C_300 0) 21).toInt ≤ 250 := fM_0_21 t_303
        have : 0 ≤ (gi (C_300 0) 7).toInt ∧ (gi (C_300 0) 7).toInt ≤ 250 := fM_0_7 t_303
        have : 0 ≤ (gi (C_300 0) 23).toInt ∧ (gi (C_300 0) 23).toInt ≤ 250 := fM_0_23 t_303
        have : 0 ≤ (gi (C_300 0) 13).toInt ∧ (gi (C_300 0) 13).toInt ≤ 5 := fM_0_13 t_303
        have : (gi (C_300 0) 7).toInt = (gi (C 0) 7).toInt := congrArg (fun z => (vi z).toInt) (f_302.2 7 (by decide))
        have : (gi (C_300 0) 13).toInt = (gi (C 0) 13).toInt := congrArg (fun z => (vi z).toInt) (f_302.2 13 (by decide))
        have : 0 ≤ (gi (C_300 0) 21).toInt ∧ (gi (C_300 0) 21).toInt ≤ 250 := fM_0_21 t_303
        have : 0 ≤ (gi (C_300 0) 7).toInt ∧ (gi (C_300 0) 7).toInt ≤ 250 := fM_0_7 t_303
        have : 0 ≤ (gi (C_300 0) 23).toInt ∧ (gi (C_300 0) 23).toInt ≤ 250 := fM_0_23 t_303
        have : 0 ≤ (gi (C_300 0) 13).toInt ∧ (gi (C_300 0) 13).toInt ≤ 5 := fM_0_13 t_303
        rw [hQ]
        exact W.zret (v := r_299) (ty := .boolean) hx hb hr (oh_nb hq_301.1) (fun t ht hW => ⟨⟨r_299, C_300, rfl, ⟨hT, hF, ⟨hq_301.1, ⟨hq_301.2.1, hq_301.2.2⟩, (fun h9 => (by omega)), (RelW.fr hR f_302 (by decide)), (by omega)⟩⟩, ⟨by rw [ht]; exact hP, hD⟩⟩, hS.F ht⟩) hS.2.2 dX7_statement_63
  · have u_304 := hq_2.2 c_3
    refine lv_aload_n hx hb dX7_statement_9 rfl (lv_at hl 0 rfl) ?_
    refine va_get (D := D) (ci := 7) (v := .int (gi (C 0) 9)) (C := RX7) (T := TX7) (N := 29) hx hb htg ig_7 hown hK hP 0 (oh_wg (Nat.lt_of_lt_of_le (by decide) hn) (sM_0 hT)) rfl 9 (by decide) (htg _ q_982) (fun _ h9 => h9) rfl dX7_statement_10 ?_
    refine lv_bipush (v := 24) hx hb dX7_statement_13 (by decide) ?_
    refine lv_icmp_ge (tgt := 32) hx hb dX7_statement_15 (by decide) (fun (c_305 : (24 : Int32) ≤ (gi (C 0) 9)) => ?_) (fun (c_305 : ¬ ((24 : Int32) ≤ (gi (C 0) 9))) => ?_)
    · refine lv_aload_n hx hb dX7_statement_32 rfl (lv_at hl 0 rfl) ?_
      refine va_ldcS hx hb hown (hG.2.2.1 ("OneHeavyLoadModel", 205, "bridge", 25) (List.mem_of_getElem? (i := 22) rfl)) dX7_statement_33 ?_
      refine tq_V (As := [.ref (G (3 + 22))]) (rest := []) (ws := (oh_W n a C)) ⟨hx, hb, hml, hown, htg⟩ (c_X7_isWord l D E G a C n hn hT 22 (by decide)) (cwV 1 htg (oh_gV q_1215 q_1217 q_41 q_73 q_1218) rfl rfl rfl pdVX7_isWord ⟨Nat.le_of_ble_eq_true rfl, Nat.le_of_ble_eq_true rfl⟩) hK hP hG hS (va_recv hK hP (ci := 7) (q0 := 0) rfl (oh_wg (Nat.lt_of_lt_of_le (by decide) hn) (sM_0 hT))) rfl hl.1 rfl (Nat.le_of_ble_eq_true rfl) dX7_statement_35 ⟨Nat.le_of_ble_eq_true rfl, Nat.le_of_ble_eq_true rfl⟩ (fun r_306 hq_307 => ?_)
      refine lv_if_eq (tgt := 64) hx hb dX7_statement_38 (by decide) (fun (c_308 : r_306 = 0) => ?_) (fun (c_308 : ¬ (r_306 = 0)) => ?_)
      · refine lv_aload_n hx hb dX7_statement_64 rfl (lv_at hl 0 rfl) ?_
        refine va_ldcS hx hb hown (hG.2.2.1 ("OneHeavyLoadModel", 209, "waggon", 31) (List.mem_of_getElem? (i := 28) rfl)) dX7_statement_65 ?_
        refine tq_V (As := [.ref (G (3 + 28))]) (rest := []) (ws := (oh_W n a C)) ⟨hx, hb, hml, hown, htg⟩ (c_X7_isWord l D E G a C n hn hT 28 (by decide)) (cwV 1 htg (oh_gV q_1215 q_1217 q_41 q_73 q_1218) rfl rfl rfl pdVX7_isWord ⟨Nat.le_of_ble_eq_true rfl, Nat.le_of_ble_eq_true rfl⟩) hK hP hG hS (va_recv hK hP (ci := 7) (q0 := 0) rfl (oh_wg (Nat.lt_of_lt_of_le (by decide) hn) (sM_0 hT))) rfl hl.1 rfl (Nat.le_of_ble_eq_true rfl) dX7_statement_67 ⟨Nat.le_of_ble_eq_true rfl, Nat.le_of_ble_eq_true rfl⟩ (fun r_309 hq_310 => ?_)
        refine lv_if_eq (tgt := 147) hx hb dX7_statement_70 (by decide) (fun (c_311 : r_309 = 0) => ?_) (fun (c_311 : ¬ (r_309 = 0)) => ?_)
        · refine lv_aload_n hx hb dX7_statement_147 rfl (lv_at hl 0 rfl) ?_
          refine va_ldcS hx hb hown (hG.2.2.1 ("OneHeavyLoadModel", 214, "part", 34) (List.mem_of_getElem? (i := 31) rfl)) dX7_statement_148 ?_
          refine tq_V (As := [.ref (G (3 + 31))]) (rest := []) (ws := (oh_W n a C)) ⟨hx, hb, hml, hown, htg⟩ (c_X7_isWord l D E G a C n hn hT 31 (by decide)) (cwV 1 htg (oh_gV q_1215 q_1217 q_41 q_73 q_1218) rfl rfl rfl pdVX7_isWord ⟨Nat.le_of_ble_eq_true rfl, Nat.le_of_ble_eq_true rfl⟩) hK hP hG hS (va_recv hK hP (ci := 7) (q0 := 0) rfl (oh_wg (Nat.lt_of_lt_of_le (by decide) hn) (sM_0 hT))) rfl hl.1 rfl (Nat.le_of_ble_eq_true rfl) dX7_statement_150 ⟨Nat.le_of_ble_eq_true rfl, Nat.le_of_ble_eq_true rfl⟩ (fun r_312 hq_313 => ?_)
          refine lv_if_eq (tgt := 220) hx hb dX7_statement_153 (by decide) (fun (c_314 : r_312 = 0) => ?_) (fun (c_314 : ¬ (r_312 = 0)) => ?_)
          · refine lv_aload_n hx hb dX7_statement_220 rfl (lv_at hl 0 rfl) ?_
            refine va_ldcS hx hb hown (hG.2.2.1 ("OneHeavyLoadModel", 215, "load", 35) (List.mem_of_getElem? (i := 32) rfl)) dX7_statement_221 ?_
            refine tq_V (As := [.ref (G (3 + 32))]) (rest := []) (ws := (oh_W n a C)) ⟨hx, hb, hml, hown, htg⟩ (c_X7_isWord l D E G a C n hn hT 32 (by decide)) (cwV 1 htg (oh_gV q_1215 q_1217 q_41 q_73 q_1218) rfl rfl rfl pdVX7_isWord ⟨Nat.le_of_ble_eq_true rfl, Nat.le_of_ble_eq_true rfl⟩) hK hP hG hS (va_recv hK hP (ci := 7) (q0 := 0) rfl (oh_wg (Nat.lt_of_lt_of_le (by decide) hn) (sM_0 hT))) rfl hl.1 rfl (Nat.le_of_ble_eq_true rfl) dX7_statement_223 ⟨Nat.le_of_ble_eq_true rfl, Nat.le_of_ble_eq_true rfl⟩ (fun r_315 hq_316 => ?_)
            refine lv_if_eq (tgt := 245) hx hb dX7_statement_226 (by decide) (fun (c_317 : r_315 = 0) => ?_) (fun (c_317 : ¬ (r_315 = 0)) => ?_)
            · refine lv_aload_n hx hb dX7_statement_245 rfl (lv_at hl 0 rfl) ?_
              refine va_ldcS hx hb hown (hG.2.2.1 ("OneHeavyLoadModel", 217, "mile", 36) (List.mem_of_getElem? (i := 33) rfl)) dX7_statement_246 ?_
              refine lv_aload_n hx hb dX7_statement_248 rfl (lv_at hl 0 rfl) ?_
              refine va_get (D := D) (ci := 7) (v := .ref (a 13)) (C := RX7) (T := TX7) (N := 29) hx hb htg ig_7 hown hK hP 0 (oh_wg (Nat.lt_of_lt_of_le (by decide) hn) (sM_0 hT)) rfl 17 (by decide) (htg _ q_990) (fun _ h9 => h9) rfl dX7_statement_249 ?_
              refine lv_iconst (v := 1) hx hb dX7_statement_252 (by decide) ?_
              refine lv_iconst (v := 0) hx hb dX7_statement_253 (by decide) ?_
              refine lv_bipush (v := 99) hx hb dX7_statement_254 (by decide) ?_
              have : 0 ≤ (gi (C 0) 21).toInt ∧ (gi (C 0) 21).toInt ≤ 250 := fM_0_21 hT0
              have : 0 ≤ (gi (C 0) 7).toInt ∧ (gi (C 0) 7).toInt ≤ 250 := fM_0_7 hT0
              have : 0 ≤ (gi (C 0) 23).toInt ∧ (gi (C 0) 23).toInt ≤ 250 := fM_0_23 hT0
              have : 0 ≤ (gi (C 0) 13).toInt ∧ (gi (C 0) 13).toInt ≤ 5 := fM_0_13 hT0
              have : (24 : Int32).toInt = 24 := rfl
              have : (24 : Int32).toInt ≤ (gi (C 0) 9).toInt := Int32.le_iff_toInt_le.mp c_305
              refine tm_V (As := [.ref (G (3 + 33)), .ref (a 13), .int 1, .int 0, .int 99]) (rest := []) ⟨hx, hb, hml, hown, htg⟩ (c_X7_told l D E G _ a C n hn hT 33 13 (1 : Int32) (0 : Int32) (99 : Int32) (by decide) ⟨(Nat.lt_of_lt_of_le (by decide) hn), (by decide), 3, fun C h => (sM_13 h), (rg_in (rg_c (v := 1) (lo := 1) (hi := 1) (by decide)) (by decide)), fun C v h h1 h2 => (h.up 13 (by decide) (tA_upd (tM_13 h) tA_any))⟩ (by omega)) (cwV 5 htg (oh_gV q_1234 q_1236 q_45 q_73 q_1237) rfl rfl rfl pdVX7_told ⟨Nat.le_of_ble_eq_true rfl, Nat.le_of_ble_eq_true rfl⟩) hK hP hD hG hS hA (va_recv hK hP (ci := 7) (q0 := 0) rfl (oh_wg (Nat.lt_of_lt_of_le (by decide) hn) (sM_0 hT))) rfl hl.1 rfl (Nat.le_of_ble_eq_true rfl) dX7_statement_256 ⟨Nat.le_of_ble_eq_true rfl, Nat.le_of_ble_eq_true rfl⟩ (fun r_318 C_319 H locs hq_320 hP hD hS => ?_)
              obtain ⟨hT, f_321, hq_320⟩ := hq_320
              have hF := fr_trk hF f_321 (by decide) (by decide)
              refine W.widen (k := 0) (n := 0) (Nat.le_refl _) (Nat.le_refl _) ?_
              have t_322 := hT
              have : (gi (C_319 0) 7).toInt = (gi (C 0) 7).toInt := congrArg (fun z => (vi z).toInt) (f_321.2 7 (by decide))
              have : (gi (C_319 0) 13).toInt = (gi (C 0) 13).toInt := congrArg (fun z => (vi z).toInt) (f_321.2 13 (by decide))
              have : 0 ≤ (gi (C_319 0) 21).toInt ∧ (gi (C_319 0) 21).toInt ≤ 250 := fM_0_21 t_322
              have : 0 ≤ (gi (C_319 0) 7).toInt ∧ (gi (C_319 0) 7).toInt ≤ 250 := fM_0_7 t_322
              have : 0 ≤ (gi (C_319 0) 23).toInt ∧ (gi (C_319 0) 23).toInt ≤ 250 := fM_0_23 t_322
              have : 0 ≤ (gi (C_319 0) 13).toInt ∧ (gi (C_319 0) 13).toInt ≤ 5 := fM_0_13 t_322
              rw [hQ]
              exact W.zret (v := r_318) (ty := .boolean) hx hb hr (oh_nb hq_320.1) (fun t ht hW => ⟨⟨r_318, C_319, rfl, ⟨hT, hF, ⟨hq_320.1, ⟨hq_320.2.1.1, hq_320.2.1.2⟩, (fun h9 => (hq_320.2.2.2.2 h9)), (RelW.fr hR (fr_trk (mc := [(13, 14)]) (mf := [21, 22, 23, 24, 25]) fr_rf f_321 (by decide) (by decide)) (by decide)), (by omega)⟩⟩, ⟨by rw [ht]; exact hP, hD⟩⟩, hS.F ht⟩) hS.2.2 dX7_statement_259
            · have u_323 := hq_316.2 c_317
              refine lv_aload_n hx hb dX7_statement_229 rfl (lv_at hl 0 rfl) ?_
              refine va_ldcS hx hb hown (hG.2.2.1 ("OneHeavyLoadModel", 215, "load", 35) (List.mem_of_getElem? (i := 32) rfl)) dX7_statement_230 ?_
              refine lv_aload_n hx hb dX7_statement_232 rfl (lv_at hl 0 rfl) ?_
              refine va_get (D := D) (ci := 7) (v := .ref (a 13)) (C := RX7) (T := TX7) (N := 29) hx hb htg ig_7 hown hK hP 0 (oh_wg (Nat.lt_of_lt_of_le (by decide) hn) (sM_0 hT)) rfl 17 (by decide) (htg _ q_990) (fun _ h9 => h9) rfl dX7_statement_233 ?_
              refine lv_iconst (v := 0) hx hb dX7_statement_236 (by decide) ?_
              refine lv_iconst (v := 0) hx hb dX7_statement_237 (by decide) ?_
              refine lv_sipush (v := 900) hx hb dX7_statement_238 (by decide) ?_
              have : 0 ≤ (gi (C 0) 21).toInt ∧ (gi (C 0) 21).toInt ≤ 250 := fM_0_21 hT0
              have : 0 ≤ (gi (C 0) 7).toInt ∧ (gi (C 0) 7).toInt ≤ 250 := fM_0_7 hT0
              have : 0 ≤ (gi (C 0) 23).toInt ∧ (gi (C 0) 23).toInt ≤ 250 := fM_0_23 hT0
              have : 0 ≤ (gi (C 0) 13).toInt ∧ (gi (C 0) 13).toInt ≤ 5 := fM_0_13 hT0
              have : (24 : Int32).toInt = 24 := rfl
              have : (24 : Int32).toInt ≤ (gi (C 0) 9).toInt := Int32.le_iff_toInt_le.mp c_305
              refine tm_V (As := [.ref (G (3 + 32)), .ref (a 13), .int 0, .int 0, .int 900]) (rest := []) ⟨hx, hb, hml, hown, htg⟩ (c_X7_told l D E G _ a C n hn hT 32 13 (0 : Int32) (0 : Int32) (900 : Int32) (by decide) ⟨(Nat.lt_of_lt_of_le (by decide) hn), (by decide), 3, fun C h => (sM_13 h), (rg_in (rg_c (v := 0) (lo := 0) (hi := 0) (by decide)) (by decide)), fun C v h h1 h2 => (h.up 13 (by decide) (tA_upd (tM_13 h) tA_any))⟩ (by omega)) (cwV 5 htg (oh_gV q_1234 q_1236 q_45 q_73 q_1237) rfl rfl rfl pdVX7_told ⟨Nat.le_of_ble_eq_true rfl, Nat.le_of_ble_eq_true rfl⟩) hK hP hD hG hS hA (va_recv hK hP (ci := 7) (q0 := 0) rfl (oh_wg (Nat.lt_of_lt_of_le (by decide) hn) (sM_0 hT))) rfl hl.1 rfl (Nat.le_of_ble_eq_true rfl) dX7_statement_241 ⟨Nat.le_of_ble_eq_true rfl, Nat.le_of_ble_eq_true rfl⟩ (fun r_324 C_325 H locs hq_326 hP hD hS => ?_)
              obtain ⟨hT, f_327, hq_326⟩ := hq_326
              have hF := fr_trk hF f_327 (by decide) (by decide)
              refine W.widen (k := 0) (n := 0) (Nat.le_refl _) (Nat.le_refl _) ?_
              have t_328 := hT
              have : (gi (C_325 0) 7).toInt = (gi (C 0) 7).toInt := congrArg (fun z => (vi z).toInt) (f_327.2 7 (by decide))
              have : (gi (C_325 0) 13).toInt = (gi (C 0) 13).toInt := congrArg (fun z => (vi z).toInt) (f_327.2 13 (by decide))
              have : 0 ≤ (gi (C_325 0) 21).toInt ∧ (gi (C_325 0) 21).toInt ≤ 250 := fM_0_21 t_328
              have : 0 ≤ (gi (C_325 0) 7).toInt ∧ (gi (C_325 0) 7).toInt ≤ 250 := fM_0_7 t_328
              have : 0 ≤ (gi (C_325 0) 23).toInt ∧ (gi (C_325 0) 23).toInt ≤ 250 := fM_0_23 t_328
              have : 0 ≤ (gi (C_325 0) 13).toInt ∧ (gi (C_325 0) 13).toInt ≤ 5 := fM_0_13 t_328
              rw [hQ]
              exact W.zret (v := r_324) (ty := .boolean) hx hb hr (oh_nb hq_326.1) (fun t ht hW => ⟨⟨r_324, C_325, rfl, ⟨hT, hF, ⟨hq_326.1, ⟨hq_326.2.1.1, hq_326.2.1.2⟩, (fun h9 => (hq_326.2.2.2.2 h9)), (RelW.fr hR (fr_trk (mc := [(13, 14)]) (mf := [21, 22, 23, 24, 25]) fr_rf f_327 (by decide) (by decide)) (by decide)), (by omega)⟩⟩, ⟨by rw [ht]; exact hP, hD⟩⟩, hS.F ht⟩) hS.2.2 dX7_statement_244
          · have u_329 := hq_313.2 c_314
            refine lv_aload_n hx hb dX7_statement_156 rfl (lv_at hl 0 rfl) ?_
            refine va_get (D := D) (ci := 7) (v := .int (gi (C 0) 15)) (C := RX7) (T := TX7) (N := 29) hx hb htg ig_7 hown hK hP 0 (oh_wg (Nat.lt_of_lt_of_le (by decide) hn) (sM_0 hT)) rfl 15 (by decide) (htg _ q_988) (fun _ h9 => h9) rfl dX7_statement_157 ?_
            refine lv_iconst (v := 5) hx hb dX7_statement_160 (by decide) ?_
            refine lv_icmp_ge (tgt := 220) hx hb dX7_statement_161 (by decide) (fun (c_330 : (5 : Int32) ≤ (gi (C 0) 15)) => ?_) (fun (c_330 : ¬ ((5 : Int32) ≤ (gi (C 0) 15))) => ?_)
            · refine lv_aload_n hx hb dX7_statement_220 rfl (lv_at hl 0 rfl) ?_
              refine va_ldcS hx hb hown (hG.2.2.1 ("OneHeavyLoadModel", 215, "load", 35) (List.mem_of_getElem? (i := 32) rfl)) dX7_statement_221 ?_
              refine tq_V (As := [.ref (G (3 + 32))]) (rest := []) (ws := (oh_W n a C)) ⟨hx, hb, hml, hown, htg⟩ (c_X7_isWord l D E G a C n hn hT 32 (by decide)) (cwV 1 htg (oh_gV q_1215 q_1217 q_41 q_73 q_1218) rfl rfl rfl pdVX7_isWord ⟨Nat.le_of_ble_eq_true rfl, Nat.le_of_ble_eq_true rfl⟩) hK hP hG hS (va_recv hK hP (ci := 7) (q0 := 0) rfl (oh_wg (Nat.lt_of_lt_of_le (by decide) hn) (sM_0 hT))) rfl hl.1 rfl (Nat.le_of_ble_eq_true rfl) dX7_statement_223 ⟨Nat.le_of_ble_eq_true rfl, Nat.le_of_ble_eq_true rfl⟩ (fun r_331 hq_332 => ?_)
              refine lv_if_eq (tgt := 245) hx hb dX7_statement_226 (by decide) (fun (c_333 : r_331 = 0) => ?_) (fun (c_333 : ¬ (r_331 = 0)) => ?_)
              · refine lv_aload_n hx hb dX7_statement_245 rfl (lv_at hl 0 rfl) ?_
                refine va_ldcS hx hb hown (hG.2.2.1 ("OneHeavyLoadModel", 217, "mile", 36) (List.mem_of_getElem? (i := 33) rfl)) dX7_statement_246 ?_
                refine lv_aload_n hx hb dX7_statement_248 rfl (lv_at hl 0 rfl) ?_
                refine va_get (D := D) (ci := 7) (v := .ref (a 13)) (C := RX7) (T := TX7) (N := 29) hx hb htg ig_7 hown hK hP 0 (oh_wg (Nat.lt_of_lt_of_le (by decide) hn) (sM_0 hT)) rfl 17 (by decide) (htg _ q_990) (fun _ h9 => h9) rfl dX7_statement_249 ?_
                refine lv_iconst (v := 1) hx hb dX7_statement_252 (by decide) ?_
                refine lv_iconst (v := 0) hx hb dX7_statement_253 (by decide) ?_
                refine lv_bipush (v := 99) hx hb dX7_statement_254 (by decide) ?_
                have : 0 ≤ (gi (C 0) 21).toInt ∧ (gi (C 0) 21).toInt ≤ 250 := fM_0_21 hT0
                have : 0 ≤ (gi (C 0) 7).toInt ∧ (gi (C 0) 7).toInt ≤ 250 := fM_0_7 hT0
                have : 0 ≤ (gi (C 0) 23).toInt ∧ (gi (C 0) 23).toInt ≤ 250 := fM_0_23 hT0
                have : 0 ≤ (gi (C 0) 13).toInt ∧ (gi (C 0) 13).toInt ≤ 5 := fM_0_13 hT0
                have : (24 : Int32).toInt = 24 := rfl
                have : (24 : Int32).toInt ≤ (gi (C 0) 9).toInt := Int32.le_iff_toInt_le.mp c_305
                have : (5 : Int32).toInt = 5 := rfl
                have : (5 : Int32).toInt ≤ (gi (C 0) 15).toInt := Int32.le_iff_toInt_le.mp c_330
                refine tm_V (As := [.ref (G (3 + 33)), .ref (a 13), .int 1, .int 0, .int 99]) (rest := []) ⟨hx, hb, hml, hown, htg⟩ (c_X7_told l D E G _ a C n hn hT 33 13 (1 : Int32) (0 : Int32) (99 : Int32) (by decide) ⟨(Nat.lt_of_lt_of_le (by decide) hn), (by decide), 3, fun C h => (sM_13 h), (rg_in (rg_c (v := 1) (lo := 1) (hi := 1) (by decide)) (by decide)), fun C v h h1 h2 => (h.up 13 (by decide) (tA_upd (tM_13 h) tA_any))⟩ (by omega)) (cwV 5 htg (oh_gV q_1234 q_1236 q_45 q_73 q_1237) rfl rfl rfl pdVX7_told ⟨Nat.le_of_ble_eq_true rfl, Nat.le_of_ble_eq_true rfl⟩) hK hP hD hG hS hA (va_recv hK hP (ci := 7) (q0 := 0) rfl (oh_wg (Nat.lt_of_lt_of_le (by decide) hn) (sM_0 hT))) rfl hl.1 rfl (Nat.le_of_ble_eq_true rfl) dX7_statement_256 ⟨Nat.le_of_ble_eq_true rfl, Nat.le_of_ble_eq_true rfl⟩ (fun r_334 C_335 H locs hq_336 hP hD hS => ?_)
                obtain ⟨hT, f_337, hq_336⟩ := hq_336
                have hF := fr_trk hF f_337 (by decide) (by decide)
                refine W.widen (k := 0) (n := 0) (Nat.le_refl _) (Nat.le_refl _) ?_
                have t_338 := hT
                have : (gi (C_335 0) 7).toInt = (gi (C 0) 7).toInt := congrArg (fun z => (vi z).toInt) (f_337.2 7 (by decide))
                have : (gi (C_335 0) 13).toInt = (gi (C 0) 13).toInt := congrArg (fun z => (vi z).toInt) (f_337.2 13 (by decide))
                have : 0 ≤ (gi (C_335 0) 21).toInt ∧ (gi (C_335 0) 21).toInt ≤ 250 := fM_0_21 t_338
                have : 0 ≤ (gi (C_335 0) 7).toInt ∧ (gi (C_335 0) 7).toInt ≤ 250 := fM_0_7 t_338
                have : 0 ≤ (gi (C_335 0) 23).toInt ∧ (gi (C_335 0) 23).toInt ≤ 250 := fM_0_23 t_338
                have : 0 ≤ (gi (C_335 0) 13).toInt ∧ (gi (C_335 0) 13).toInt ≤ 5 := fM_0_13 t_338
                rw [hQ]
                exact W.zret (v := r_334) (ty := .boolean) hx hb hr (oh_nb hq_336.1) (fun t ht hW => ⟨⟨r_334, C_335, rfl, ⟨hT, hF, ⟨hq_336.1, ⟨hq_336.2.1.1, hq_336.2.1.2⟩, (fun h9 => (hq_336.2.2.2.2 h9)), (RelW.fr hR (fr_trk (mc := [(13, 14)]) (mf := [21, 22, 23, 24, 25]) fr_rf f_337 (by decide) (by decide)) (by decide)), (by omega)⟩⟩, ⟨by rw [ht]; exact hP, hD⟩⟩, hS.F ht⟩) hS.2.2 dX7_statement_259
              · have u_339 := hq_332.2 c_333
                refine lv_aload_n hx hb dX7_statement_229 rfl (lv_at hl 0 rfl) ?_
                refine va_ldcS hx hb hown (hG.2.2.1 ("OneHeavyLoadModel", 215, "load", 35) (List.mem_of_getElem? (i := 32) rfl)) dX7_statement_230 ?_
                refine lv_aload_n hx hb dX7_statement_232 rfl (lv_at hl 0 rfl) ?_
                refine va_get (D := D) (ci := 7) (v := .ref (a 13)) (C := RX7) (T := TX7) (N := 29) hx hb htg ig_7 hown hK hP 0 (oh_wg (Nat.lt_of_lt_of_le (by decide) hn) (sM_0 hT)) rfl 17 (by decide) (htg _ q_990) (fun _ h9 => h9) rfl dX7_statement_233 ?_
                refine lv_iconst (v := 0) hx hb dX7_statement_236 (by decide) ?_
                refine lv_iconst (v := 0) hx hb dX7_statement_237 (by decide) ?_
                refine lv_sipush (v := 900) hx hb dX7_statement_238 (by decide) ?_
                have : 0 ≤ (gi (C 0) 21).toInt ∧ (gi (C 0) 21).toInt ≤ 250 := fM_0_21 hT0
                have : 0 ≤ (gi (C 0) 7).toInt ∧ (gi (C 0) 7).toInt ≤ 250 := fM_0_7 hT0
                have : 0 ≤ (gi (C 0) 23).toInt ∧ (gi (C 0) 23).toInt ≤ 250 := fM_0_23 hT0
                have : 0 ≤ (gi (C 0) 13).toInt ∧ (gi (C 0) 13).toInt ≤ 5 := fM_0_13 hT0
                have : (24 : Int32).toInt = 24 := rfl
                have : (24 : Int32).toInt ≤ (gi (C 0) 9).toInt := Int32.le_iff_toInt_le.mp c_305
                have : (5 : Int32).toInt = 5 := rfl
                have : (5 : Int32).toInt ≤ (gi (C 0) 15).toInt := Int32.le_iff_toInt_le.mp c_330
                refine tm_V (As := [.ref (G (3 + 32)), .ref (a 13), .int 0, .int 0, .int 900]) (rest := []) ⟨hx, hb, hml, hown, htg⟩ (c_X7_told l D E G _ a C n hn hT 32 13 (0 : Int32) (0 : Int32) (900 : Int32) (by decide) ⟨(Nat.lt_of_lt_of_le (by decide) hn), (by decide), 3, fun C h => (sM_13 h), (rg_in (rg_c (v := 0) (lo := 0) (hi := 0) (by decide)) (by decide)), fun C v h h1 h2 => (h.up 13 (by decide) (tA_upd (tM_13 h) tA_any))⟩ (by omega)) (cwV 5 htg (oh_gV q_1234 q_1236 q_45 q_73 q_1237) rfl rfl rfl pdVX7_told ⟨Nat.le_of_ble_eq_true rfl, Nat.le_of_ble_eq_true rfl⟩) hK hP hD hG hS hA (va_recv hK hP (ci := 7) (q0 := 0) rfl (oh_wg (Nat.lt_of_lt_of_le (by decide) hn) (sM_0 hT))) rfl hl.1 rfl (Nat.le_of_ble_eq_true rfl) dX7_statement_241 ⟨Nat.le_of_ble_eq_true rfl, Nat.le_of_ble_eq_true rfl⟩ (fun r_340 C_341 H locs hq_342 hP hD hS => ?_)
                obtain ⟨hT, f_343, hq_342⟩ := hq_342
                have hF := fr_trk hF f_343 (by decide) (by decide)
                refine W.widen (k := 0) (n := 0) (Nat.le_refl _) (Nat.le_refl _) ?_
                have t_344 := hT
                have : (gi (C_341 0) 7).toInt = (gi (C 0) 7).toInt := congrArg (fun z => (vi z).toInt) (f_343.2 7 (by decide))
                have : (gi (C_341 0) 13).toInt = (gi (C 0) 13).toInt := congrArg (fun z => (vi z).toInt) (f_343.2 13 (by decide))
                have : 0 ≤ (gi (C_341 0) 21).toInt ∧ (gi (C_341 0) 21).toInt ≤ 250 := fM_0_21 t_344
                have : 0 ≤ (gi (C_341 0) 7).toInt ∧ (gi (C_341 0) 7).toInt ≤ 250 := fM_0_7 t_344
                have : 0 ≤ (gi (C_341 0) 23).toInt ∧ (gi (C_341 0) 23).toInt ≤ 250 := fM_0_23 t_344
                have : 0 ≤ (gi (C_341 0) 13).toInt ∧ (gi (C_341 0) 13).toInt ≤ 5 := fM_0_13 t_344
                rw [hQ]
                exact W.zret (v := r_340) (ty := .boolean) hx hb hr (oh_nb hq_342.1) (fun t ht hW => ⟨⟨r_340, C_341, rfl, ⟨hT, hF, ⟨hq_342.1, ⟨hq_342.2.1.1, hq_342.2.1.2⟩, (fun h9 => (hq_342.2.2.2.2 h9)), (RelW.fr hR (fr_trk (mc := [(13, 14)]) (mf := [21, 22, 23, 24, 25]) fr_rf f_343 (by decide) (by decide)) (by decide)), (by omega)⟩⟩, ⟨by rw [ht]; exact hP, hD⟩⟩, hS.F ht⟩) hS.2.2 dX7_statement_244
            · refine lv_aload_n hx hb dX7_statement_164 rfl (lv_at hl 0 rfl) ?_
              refine va_ldcS hx hb hown (hG.2.2.1 ("OneHeavyLoadModel", 214, "part", 34) (List.mem_of_getElem? (i := 31) rfl)) dX7_statement_165 ?_
              refine lv_aload_n hx hb dX7_statement_167 rfl (lv_at hl 0 rfl) ?_
              refine va_get (D := D) (ci := 7) (v := .ref (a 12)) (C := RX7) (T := TX7) (N := 29) hx hb htg ig_7 hown hK hP 0 (oh_wg (Nat.lt_of_lt_of_le (by decide) hn) (sM_0 hT)) rfl 16 (by decide) (htg _ q_989) (fun _ h9 => h9) rfl dX7_statement_168 ?_
              refine lv_aload_n hx hb dX7_statement_171 rfl (lv_at hl 0 rfl) ?_
              refine va_get (D := D) (ci := 7) (v := .int (gi (C 0) 15)) (C := RX7) (T := TX7) (N := 29) hx hb htg ig_7 hown hK hP 0 (oh_wg (Nat.lt_of_lt_of_le (by decide) hn) (sM_0 hT)) rfl 15 (by decide) (htg _ q_988) (fun _ h9 => h9) rfl dX7_statement_172 ?_
              have n_345 : vp_in (gi (C 0) 15) 5 := (rg_in (rn_ltu (u' := 4) (Int32.not_le.mp c_330) (fM_0_15 hT0) (rg_c (v := 5) (lo := 5) (hi := 5) (by decide)) (by decide)) (by decide))
              have b_346 : (gi (C 0) 15).toNatClampNeg < 5 := vp_lt n_345
              refine th_aald hx hb hK hP 12 2 (Nat.lt_of_lt_of_le (by decide) hn) (sM_12 hT) rfl n_345 dX7_statement_175 ?_
              refine lv_iconst (v := 0) hx hb dX7_statement_176 (by decide) ?_
              refine lv_iconst (v := 1) hx hb dX7_statement_177 (by decide) ?_
              refine lv_bipush (v := 99) hx hb dX7_statement_178 (by decide) ?_
              have : 0 ≤ (gi (C 0) 21).toInt ∧ (gi (C 0) 21).toInt ≤ 250 := fM_0_21 hT0
              have : 0 ≤ (gi (C 0) 7).toInt ∧ (gi (C 0) 7).toInt ≤ 250 := fM_0_7 hT0
              have : 0 ≤ (gi (C 0) 23).toInt ∧ (gi (C 0) 23).toInt ≤ 250 := fM_0_23 hT0
              have : 0 ≤ (gi (C 0) 13).toInt ∧ (gi (C 0) 13).toInt ≤ 5 := fM_0_13 hT0
              have : (24 : Int32).toInt = 24 := rfl
              have : (24 : Int32).toInt ≤ (gi (C 0) 9).toInt := Int32.le_iff_toInt_le.mp c_305
              have : (5 : Int32).toInt = 5 := rfl
              have : (gi (C 0) 15).toInt < (5 : Int32).toInt := Int32.lt_iff_toInt_lt.mp (Int32.not_le.mp c_330)
              refine tm_V (As := [.ref (G (3 + 31)), .ref (a (69 + (gi (C 0) 15).toNatClampNeg)), .int 0, .int 1, .int 99]) (rest := []) ⟨hx, hb, hml, hown, htg⟩ (c_X7_told l D E G _ a C n hn hT 31 (69 + (gi (C 0) 15).toNatClampNeg) (0 : Int32) (1 : Int32) (99 : Int32) (by decide) ⟨(lt_blk b_346 hn (by decide)), (by omega), 2, fun C h => (h.bpart b_346).1, (rg_in (rg_c (v := 0) (lo := 0) (hi := 0) (by decide)) (by decide)), fun C v h h1 h2 => (h.uppart b_346 (tA_upd (h.bpart b_346) tA_any))⟩ (by omega)) (cwV 5 htg (oh_gV q_1234 q_1236 q_45 q_73 q_1237) rfl rfl rfl pdVX7_told ⟨Nat.le_of_ble_eq_true rfl, Nat.le_of_ble_eq_true rfl⟩) hK hP hD hG hS hA (va_recv hK hP (ci := 7) (q0 := 0) rfl (oh_wg (Nat.lt_of_lt_of_le (by decide) hn) (sM_0 hT))) rfl hl.1 rfl (Nat.le_of_ble_eq_true rfl) dX7_statement_180 ⟨Nat.le_of_ble_eq_true rfl, Nat.le_of_ble_eq_true rfl⟩ (fun r_347 C_348 H locs hq_349 hP hD hS => ?_)
              obtain ⟨hT, f_350, hq_349⟩ := hq_349
              have hF := fr_trk hF f_350 (inR_of (p := (69, 74)) (by decide) (by show 69 ≤ _; omega) (by show _ < 74; omega)) (by decide)
              refine W.widen (k := 0) (n := 0) (Nat.le_refl _) (Nat.le_refl _) ?_
              have t_351 := hT
              refine lv_if_eq (tgt := 206) hx hb dX7_statement_183 (by decide) (fun (c_352 : r_347 = 0) => ?_) (fun (c_352 : ¬ (r_347 = 0)) => ?_)
              · refine lv_iconst (v := 0) hx hb dX7_statement_206 (by decide) ?_
                have : (gi (C_348 0) 7).toInt = (gi (C 0) 7).toInt := congrArg (fun z => (vi z).toInt) (f_350.2 7 (by decide))
                have : (gi (C_348 0) 13).toInt = (gi (C 0) 13).toInt := congrArg (fun z => (vi z).toInt) (f_350.2 13 (by decide))
                have : 0 ≤ (gi (C_348 0) 21).toInt ∧ (gi (C_348 0) 21).toInt ≤ 250 := fM_0_21 t_351
                have : 0 ≤ (gi (C_348 0) 7).toInt ∧ (gi (C_348 0) 7).toInt ≤ 250 := fM_0_7 t_351
                have : 0 ≤ (gi (C_348 0) 23).toInt ∧ (gi (C_348 0) 23).toInt ≤ 250 := fM_0_23 t_351
                have : 0 ≤ (gi (C_348 0) 13).toInt ∧ (gi (C_348 0) 13).toInt ≤ 5 := fM_0_13 t_351
                rw [hQ]
                exact W.zret (v := 0) (ty := .boolean) hx hb hr (by decide) (fun t ht hW => ⟨⟨0, C_348, rfl, ⟨hT, hF, ⟨(Or.inl rfl), ⟨hq_349.2.1.1, hq_349.2.1.2⟩, (fun h9 => absurd rfl h9), (RelW.fr hR (fr_trk (mc := [(69, 74)]) (mf := [21, 22, 23, 24, 25]) fr_rf f_350 (inR_of (p := (69, 74)) (by decide) (by show 69 ≤ _; omega) (by show _ < 74; omega)) (by decide)) (by decide)), (by omega)⟩⟩, ⟨by rw [ht]; exact hP, hD⟩⟩, hS.F ht⟩) hS.2.2 dX7_statement_207
              · have u_353 := hq_349.2.2.2.1 c_352
                have u_354 := hq_349.2.2.2.2 c_352
                refine lv_aload_n hx hb dX7_statement_186 rfl (lv_at hl 0 rfl) ?_
                refine lv_aload_n hx hb dX7_statement_187 rfl (lv_at hl 0 rfl) ?_
                refine va_get (D := D) (ci := 7) (v := .ref (a 12)) (C := RX7) (T := TX7) (N := 29) hx hb htg ig_7 hown hK hP 0 (oh_wg (Nat.lt_of_lt_of_le (by decide) hn) (sM_0 hT)) rfl 16 (by decide) (htg _ q_989) (fun _ h9 => h9) rfl dX7_statement_188 ?_
                refine lv_aload_n hx hb dX7_statement_191 rfl (lv_at hl 0 rfl) ?_
                refine va_get (D := D) (ci := 7) (v := .int (gi (C 0) 15)) (C := RX7) (T := TX7) (N := 29) hx hb htg ig_7 hown hK hP 0 (oh_wg (Nat.lt_of_lt_of_le (by decide) hn) (sM_0 hT)) rfl 15 (by decide) (htg _ q_988) (fun _ h9 => h9) (oh_fv (c := C_348 0) (j := 15) rfl (congrArg vi (f_350.2 15 (by decide)))) dX7_statement_192 ?_
                have n_355 : vp_in (gi (C 0) 15) 5 := (rg_in (rn_ltu (u' := 4) (Int32.not_le.mp c_330) (fM_0_15 hT0) (rg_c (v := 5) (lo := 5) (hi := 5) (by decide)) (by decide)) (by decide))
                have b_356 : (gi (C 0) 15).toNatClampNeg < 5 := vp_lt n_355
                refine th_aald hx hb hK hP 12 2 (Nat.lt_of_lt_of_le (by decide) hn) (sM_12 hT) rfl n_355 dX7_statement_195 ?_
                refine lv_iconst (v := 1) hx hb dX7_statement_196 (by decide) ?_
                refine lv_iconst (v := 0) hx hb dX7_statement_197 (by decide) ?_
                refine lv_bipush (v := 99) hx hb dX7_statement_198 (by decide) ?_
                have : (gi (C_348 0) 7).toInt = (gi (C 0) 7).toInt := congrArg (fun z => (vi z).toInt) (f_350.2 7 (by decide))
                have : (gi (C_348 0) 13).toInt = (gi (C 0) 13).toInt := congrArg (fun z => (vi z).toInt) (f_350.2 13 (by decide))
                have : 0 ≤ (gi (C_348 0) 21).toInt ∧ (gi (C_348 0) 21).toInt ≤ 250 := fM_0_21 t_351
                have : 0 ≤ (gi (C_348 0) 7).toInt ∧ (gi (C_348 0) 7).toInt ≤ 250 := fM_0_7 t_351
                have : 0 ≤ (gi (C_348 0) 23).toInt ∧ (gi (C_348 0) 23).toInt ≤ 250 := fM_0_23 t_351
                have : 0 ≤ (gi (C_348 0) 13).toInt ∧ (gi (C_348 0) 13).toInt ≤ 5 := fM_0_13 t_351
                refine tm_V (As := [.ref (a (69 + (gi (C 0) 15).toNatClampNeg)), .int 1, .int 0, .int 99]) (rest := []) ⟨hx, hb, hml, hown, htg⟩ (c_X7_number l D E G _ a C_348 n hn hT (69 + (gi (C 0) 15).toNatClampNeg) (1 : Int32) (0 : Int32) (99 : Int32) ⟨(lt_blk b_356 hn (by decide)), (by omega), 2, fun C h => (h.bpart b_356).1, (rg_in (rg_c (v := 1) (lo := 1) (hi := 1) (by decide)) (by decide)), fun C v h h1 h2 => (h.uppart b_356 (tA_upd (h.bpart b_356) tA_any))⟩ (by omega)) (cwV 4 htg (oh_gV q_1225 q_1227 q_43 q_73 q_1228) rfl rfl rfl pdVX7_number ⟨Nat.le_of_ble_eq_true rfl, Nat.le_of_ble_eq_true rfl⟩) hK hP hD hG hS hA (va_recv hK hP (ci := 7) (q0 := 0) rfl (oh_wg (Nat.lt_of_lt_of_le (by decide) hn) (sM_0 hT))) rfl hl.1 rfl (Nat.le_of_ble_eq_true rfl) dX7_statement_200 ⟨Nat.le_of_ble_eq_true rfl, Nat.le_of_ble_eq_true rfl⟩ (fun r_357 C_358 H locs hq_359 hP hD hS => ?_)
                obtain ⟨hT, f_360, hq_359⟩ := hq_359
                have hF := fr_trk hF f_360 (inR_of (p := (69, 74)) (by decide) (by show 69 ≤ _; omega) (by show _ < 74; omega)) (by decide)
                refine W.widen (k := 0) (n := 0) (Nat.le_refl _) (Nat.le_refl _) ?_
                have t_361 := hT
                refine lv_if_ne (tgt := 208) hx hb dX7_statement_203 (by decide) (fun (c_362 : ¬ (r_357 = 0)) => ?_) (fun (c_362 : r_357 = 0) => ?_)
                · have u_363 := hq_359.2.2.2 c_362
                  refine lv_aload_n hx hb dX7_statement_208 rfl (lv_at hl 0 rfl) ?_
                  refine lv_dup hx hb dX7_statement_209 rfl ?_
                  refine va_get (D := D) (ci := 7) (v := .int (gi (C 0) 15)) (C := RX7) (T := TX7) (N := 29) hx hb htg ig_7 hown hK hP 0 (oh_wg (Nat.lt_of_lt_of_le (by decide) hn) (sM_0 hT)) rfl 15 (by decide) (htg _ q_988) (fun _ h9 => h9) (oh_fv (c := C_358 0) (j := 15) rfl (Eq.trans (congrArg vi (f_360.2 15 (by decide))) (congrArg vi (f_350.2 15 (by decide))))) dX7_statement_210 ?_
                  refine lv_iconst (v := 1) hx hb dX7_statement_213 (by decide) ?_
                  refine lv_iadd hx hb dX7_statement_214 ?_
                  refine th_put (Tp := TyM a E) (Rl := fr [(13, 14), (24, 48), (48, 64), (64, 69), (69, 74)] [9, 11, 13, 15, 21, 22, 23, 24, 25] C) (ci := 7) (v := .int ((gi (C 0) 15) + 1)) (ty := .int) (CC := RX7) (T := TX7) (N := 29) hx hb htg ig_7 tyX7 tyX7_ok nmX7 hown hK hP hD hS 0 (Nat.lt_of_lt_of_le (by decide) hn) (sM_0 hT) rfl 15 (by decide) (htg _ q_988) (fun _ h9 => h9) rfl (by decide +kernel) rfl rfl (Nat.le_of_ble_eq_true rfl) (hT.up 0 (by decide) ⟨rfl, (fM_0_7 hT), (fM_0_9 hT), (fM_0_11 hT), (fM_0_13 hT), (rg_w (rg_add (lo := 1) (hi := 5) (rn_ltu (u' := 4) (Int32.not_le.mp c_330) (fM_0_15 hT0) (rg_c (v := 5) (lo := 5) (hi := 5) (by decide)) (by decide)) (rg_c (v := 1) (lo := 1) (hi := 1) (by decide)) (by decide)) (by decide)), (fM_0_21 hT), (fM_0_23 hT)⟩) (fr_fd hF (sM_0 hT) (by decide)) dX7_statement_215 (fun C_364 H locs e_365 hT hF hP hD hS => ?_)
                  have t_366 := hT
                  refine lv_iconst (v := 1) hx hb dX7_statement_218 (by decide) ?_
                  have : (gi (C_358 0) 7).toInt = (gi (C_348 0) 7).toInt := congrArg (fun z => (vi z).toInt) (f_360.2 7 (by decide))
                  have : (gi (C_358 0) 13).toInt = (gi (C_348 0) 13).toInt := congrArg (fun z => (vi z).toInt) (f_360.2 13 (by decide))
                  have : (gi (C_364 0) 21).toInt = (gi (C_358 0) 21).toInt := congrArg Int32.toInt (show gi (C_364 0) 21 = gi (C_358 0) 21 by rw [e_365]; rfl)
                  have : (gi (C_364 0) 7).toInt = (gi (C_358 0) 7).toInt := congrArg Int32.toInt (show gi (C_364 0) 7 = gi (C_358 0) 7 by rw [e_365]; rfl)
                  have : (gi (C_364 0) 23).toInt = (gi (C_358 0) 23).toInt := congrArg Int32.toInt (show gi (C_364 0) 23 = gi (C_358 0) 23 by rw [e_365]; rfl)
                  have : (gi (C_364 0) 13).toInt = (gi (C_358 0) 13).toInt := congrArg Int32.toInt (show gi (C_364 0) 13 = gi (C_358 0) 13 by rw [e_365]; rfl)
                  have : 0 ≤ (gi (C_358 0) 21).toInt ∧ (gi (C_358 0) 21).toInt ≤ 250 := fM_0_21 t_361
                  have : 0 ≤ (gi (C_358 0) 7).toInt ∧ (gi (C_358 0) 7).toInt ≤ 250 := fM_0_7 t_361
                  have : 0 ≤ (gi (C_358 0) 23).toInt ∧ (gi (C_358 0) 23).toInt ≤ 250 := fM_0_23 t_361
                  have : 0 ≤ (gi (C_358 0) 13).toInt ∧ (gi (C_358 0) 13).toInt ≤ 5 := fM_0_13 t_361
                  have : 0 ≤ (gi (C_364 0) 21).toInt ∧ (gi (C_364 0) 21).toInt ≤ 250 := fM_0_21 t_366
                  have : 0 ≤ (gi (C_364 0) 7).toInt ∧ (gi (C_364 0) 7).toInt ≤ 250 := fM_0_7 t_366
                  have : 0 ≤ (gi (C_364 0) 23).toInt ∧ (gi (C_364 0) 23).toInt ≤ 250 := fM_0_23 t_366
                  have : 0 ≤ (gi (C_364 0) 13).toInt ∧ (gi (C_364 0) 13).toInt ≤ 5 := fM_0_13 t_366
                  rw [hQ]
                  exact W.zret (v := 1) (ty := .boolean) hx hb hr (by decide) (fun t ht hW => ⟨⟨1, C_364, rfl, ⟨hT, hF, ⟨(Or.inr rfl), ⟨(by omega), (by omega)⟩, (fun _ => (by omega)), (RelW.fr (RelW.fr (RelW.fr hR (fr_trk (mc := [(69, 74)]) (mf := [21, 22, 23, 24, 25]) fr_rf f_350 (inR_of (p := (69, 74)) (by decide) (by show 69 ≤ _; omega) (by show _ < 74; omega)) (by decide)) (by decide)) (fr_trk (mc := [(69, 74)]) (mf := [21, 22, 23, 24, 25]) fr_rf f_360 (inR_of (p := (69, 74)) (by decide) (by show 69 ≤ _; omega) (by show _ < 74; omega)) (by decide)) (by decide)) (fr_fde (mc := []) (mf := [15]) fr_rf e_365 (sM_0 t_361) (by decide)) (by decide)), (by omega)⟩⟩, ⟨by rw [ht]; exact hP, hD⟩⟩, hS.F ht⟩) hS.2.2 dX7_statement_219
                · refine lv_iconst (v := 0) hx hb dX7_statement_206 (by decide) ?_
                  have : (gi (C_358 0) 7).toInt = (gi (C_348 0) 7).toInt := congrArg (fun z => (vi z).toInt) (f_360.2 7 (by decide))
                  have : (gi (C_358 0) 13).toInt = (gi (C_348 0) 13).toInt := congrArg (fun z => (vi z).toInt) (f_360.2 13 (by decide))
                  have : 0 ≤ (gi (C_358 0) 21).toInt ∧ (gi (C_358 0) 21).toInt ≤ 250 := fM_0_21 t_361
                  have : 0 ≤ (gi (C_358 0) 7).toInt ∧ (gi (C_358 0) 7).toInt ≤ 250 := fM_0_7 t_361
                  have : 0 ≤ (gi (C_358 0) 23).toInt ∧ (gi (C_358 0) 23).toInt ≤ 250 := fM_0_23 t_361
                  have : 0 ≤ (gi (C_358 0) 13).toInt ∧ (gi (C_358 0) 13).toInt ≤ 5 := fM_0_13 t_361
                  rw [hQ]
                  exact W.zret (v := 0) (ty := .boolean) hx hb hr (by decide) (fun t ht hW => ⟨⟨0, C_358, rfl, ⟨hT, hF, ⟨(Or.inl rfl), ⟨(by omega), hq_359.2.1.2⟩, (fun h9 => absurd rfl h9), (RelW.fr (RelW.fr hR (fr_trk (mc := [(69, 74)]) (mf := [21, 22, 23, 24, 25]) fr_rf f_350 (inR_of (p := (69, 74)) (by decide) (by show 69 ≤ _; omega) (by show _ < 74; omega)) (by decide)) (by decide)) (fr_trk (mc := [(69, 74)]) (mf := [21, 22, 23, 24, 25]) fr_rf f_360 (inR_of (p := (69, 74)) (by decide) (by show 69 ≤ _; omega) (by show _ < 74; omega)) (by decide)) (by decide)), (by omega)⟩⟩, ⟨by rw [ht]; exact hP, hD⟩⟩, hS.F ht⟩) hS.2.2 dX7_statement_207
        · have u_367 := hq_310.2 c_311
          refine lv_aload_n hx hb dX7_statement_73 rfl (lv_at hl 0 rfl) ?_
          refine va_get (D := D) (ci := 7) (v := .int (gi (C 0) 13)) (C := RX7) (T := TX7) (N := 29) hx hb htg ig_7 hown hK hP 0 (oh_wg (Nat.lt_of_lt_of_le (by decide) hn) (sM_0 hT)) rfl 13 (by decide) (htg _ q_986) (fun _ h9 => h9) rfl dX7_statement_74 ?_
          refine lv_iconst (v := 5) hx hb dX7_statement_77 (by decide) ?_
          refine lv_icmp_ge (tgt := 147) hx hb dX7_statement_78 (by decide) (fun (c_368 : (5 : Int32) ≤ (gi (C 0) 13)) => ?_) (fun (c_368 : ¬ ((5 : Int32) ≤ (gi (C 0) 13))) => ?_)
          · refine lv_aload_n hx hb dX7_statement_147 rfl (lv_at hl 0 rfl) ?_
            refine va_ldcS hx hb hown (hG.2.2.1 ("OneHeavyLoadModel", 214, "part", 34) (List.mem_of_getElem? (i := 31) rfl)) dX7_statement_148 ?_
            refine tq_V (As := [.ref (G (3 + 31))]) (rest := []) (ws := (oh_W n a C)) ⟨hx, hb, hml, hown, htg⟩ (c_X7_isWord l D E G a C n hn hT 31 (by decide)) (cwV 1 htg (oh_gV q_1215 q_1217 q_41 q_73 q_1218) rfl rfl rfl pdVX7_isWord ⟨Nat.le_of_ble_eq_true rfl, Nat.le_of_ble_eq_true rfl⟩) hK hP hG hS (va_recv hK hP (ci := 7) (q0 := 0) rfl (oh_wg (Nat.lt_of_lt_of_le (by decide) hn) (sM_0 hT))) rfl hl.1 rfl (Nat.le_of_ble_eq_true rfl) dX7_statement_150 ⟨Nat.le_of_ble_eq_true rfl, Nat.le_of_ble_eq_true rfl⟩ (fun r_369 hq_370 => ?_)
            refine lv_if_eq (tgt := 220) hx hb dX7_statement_153 (by decide) (fun (c_371 : r_369 = 0) => ?_) (fun (c_371 : ¬ (r_369 = 0)) => ?_)
            · refine lv_aload_n hx hb dX7_statement_220 rfl (lv_at hl 0 rfl) ?_
              refine va_ldcS hx hb hown (hG.2.2.1 ("OneHeavyLoadModel", 215, "load", 35) (List.mem_of_getElem? (i := 32) rfl)) dX7_statement_221 ?_
              refine tq_V (As := [.ref (G (3 + 32))]) (rest := []) (ws := (oh_W n a C)) ⟨hx, hb, hml, hown, htg⟩ (c_X7_isWord l D E G a C n hn hT 32 (by decide)) (cwV 1 htg (oh_gV q_1215 q_1217 q_41 q_73 q_1218) rfl rfl rfl pdVX7_isWord ⟨Nat.le_of_ble_eq_true rfl, Nat.le_of_ble_eq_true rfl⟩) hK hP hG hS (va_recv hK hP (ci := 7) (q0 := 0) rfl (oh_wg (Nat.lt_of_lt_of_le (by decide) hn) (sM_0 hT))) rfl hl.1 rfl (Nat.le_of_ble_eq_true rfl) dX7_statement_223 ⟨Nat.le_of_ble_eq_true rfl, Nat.le_of_ble_eq_true rfl⟩ (fun r_372 hq_373 => ?_)
              refine lv_if_eq (tgt := 245) hx hb dX7_statement_226 (by decide) (fun (c_374 : r_372 = 0) => ?_) (fun (c_374 : ¬ (r_372 = 0)) => ?_)
              · refine lv_aload_n hx hb dX7_statement_245 rfl (lv_at hl 0 rfl) ?_
                refine va_ldcS hx hb hown (hG.2.2.1 ("OneHeavyLoadModel", 217, "mile", 36) (List.mem_of_getElem? (i := 33) rfl)) dX7_statement_246 ?_
                refine lv_aload_n hx hb dX7_statement_248 rfl (lv_at hl 0 rfl) ?_
                refine va_get (D := D) (ci := 7) (v := .ref (a 13)) (C := RX7) (T := TX7) (N := 29) hx hb htg ig_7 hown hK hP 0 (oh_wg (Nat.lt_of_lt_of_le (by decide) hn) (sM_0 hT)) rfl 17 (by decide) (htg _ q_990) (fun _ h9 => h9) rfl dX7_statement_249 ?_
                refine lv_iconst (v := 1) hx hb dX7_statement_252 (by decide) ?_
                refine lv_iconst (v := 0) hx hb dX7_statement_253 (by decide) ?_
                refine lv_bipush (v := 99) hx hb dX7_statement_254 (by decide) ?_
                have : 0 ≤ (gi (C 0) 21).toInt ∧ (gi (C 0) 21).toInt ≤ 250 := fM_0_21 hT0
                have : 0 ≤ (gi (C 0) 7).toInt ∧ (gi (C 0) 7).toInt ≤ 250 := fM_0_7 hT0
                have : 0 ≤ (gi (C 0) 23).toInt ∧ (gi (C 0) 23).toInt ≤ 250 := fM_0_23 hT0
                have : 0 ≤ (gi (C 0) 13).toInt ∧ (gi (C 0) 13).toInt ≤ 5 := fM_0_13 hT0
                have : (24 : Int32).toInt = 24 := rfl
                have : (24 : Int32).toInt ≤ (gi (C 0) 9).toInt := Int32.le_iff_toInt_le.mp c_305
                have : (5 : Int32).toInt = 5 := rfl
                have : (5 : Int32).toInt ≤ (gi (C 0) 13).toInt := Int32.le_iff_toInt_le.mp c_368
                refine tm_V (As := [.ref (G (3 + 33)), .ref (a 13), .int 1, .int 0, .int 99]) (rest := []) ⟨hx, hb, hml, hown, htg⟩ (c_X7_told l D E G _ a C n hn hT 33 13 (1 : Int32) (0 : Int32) (99 : Int32) (by decide) ⟨(Nat.lt_of_lt_of_le (by decide) hn), (by decide), 3, fun C h => (sM_13 h), (rg_in (rg_c (v := 1) (lo := 1) (hi := 1) (by decide)) (by decide)), fun C v h h1 h2 => (h.up 13 (by decide) (tA_upd (tM_13 h) tA_any))⟩ (by omega)) (cwV 5 htg (oh_gV q_1234 q_1236 q_45 q_73 q_1237) rfl rfl rfl pdVX7_told ⟨Nat.le_of_ble_eq_true rfl, Nat.le_of_ble_eq_true rfl⟩) hK hP hD hG hS hA (va_recv hK hP (ci := 7) (q0 := 0) rfl (oh_wg (Nat.lt_of_lt_of_le (by decide) hn) (sM_0 hT))) rfl hl.1 rfl (Nat.le_of_ble_eq_true rfl) dX7_statement_256 ⟨Nat.le_of_ble_eq_true rfl, Nat.le_of_ble_eq_true rfl⟩ (fun r_375 C_376 H locs hq_377 hP hD hS => ?_)
                obtain ⟨hT, f_378, hq_377⟩ := hq_377
                have hF := fr_trk hF f_378 (by decide) (by decide)
                refine W.widen (k := 0) (n := 0) (Nat.le_refl _) (Nat.le_refl _) ?_
                have t_379 := hT
                have : (gi (C_376 0) 7).toInt = (gi (C 0) 7).toInt := congrArg (fun z => (vi z).toInt) (f_378.2 7 (by decide))
                have : (gi (C_376 0) 13).toInt = (gi (C 0) 13).toInt := congrArg (fun z => (vi z).toInt) (f_378.2 13 (by decide))
                have : 0 ≤ (gi (C_376 0) 21).toInt ∧ (gi (C_376 0) 21).toInt ≤ 250 := fM_0_21 t_379
                have : 0 ≤ (gi (C_376 0) 7).toInt ∧ (gi (C_376 0) 7).toInt ≤ 250 := fM_0_7 t_379
                have : 0 ≤ (gi (C_376 0) 23).toInt ∧ (gi (C_376 0) 23).toInt ≤ 250 := fM_0_23 t_379
                have : 0 ≤ (gi (C_376 0) 13).toInt ∧ (gi (C_376 0) 13).toInt ≤ 5 := fM_0_13 t_379
                rw [hQ]
                exact W.zret (v := r_375) (ty := .boolean) hx hb hr (oh_nb hq_377.1) (fun t ht hW => ⟨⟨r_375, C_376, rfl, ⟨hT, hF, ⟨hq_377.1, ⟨hq_377.2.1.1, hq_377.2.1.2⟩, (fun h9 => (hq_377.2.2.2.2 h9)), (RelW.fr hR (fr_trk (mc := [(13, 14)]) (mf := [21, 22, 23, 24, 25]) fr_rf f_378 (by decide) (by decide)) (by decide)), (by omega)⟩⟩, ⟨by rw [ht]; exact hP, hD⟩⟩, hS.F ht⟩) hS.2.2 dX7_statement_259
              · have u_380 := hq_373.2 c_374
                refine lv_aload_n hx hb dX7_statement_229 rfl (lv_at hl 0 rfl) ?_
                refine va_ldcS hx hb hown (hG.2.2.1 ("OneHeavyLoadModel", 215, "load", 35) (List.mem_of_getElem? (i := 32) rfl)) dX7_statement_230 ?_
                refine lv_aload_n hx hb dX7_statement_232 rfl (lv_at hl 0 rfl) ?_
                refine va_get (D := D) (ci := 7) (v := .ref (a 13)) (C := RX7) (T := TX7) (N := 29) hx hb htg ig_7 hown hK hP 0 (oh_wg (Nat.lt_of_lt_of_le (by decide) hn) (sM_0 hT)) rfl 17 (by decide) (htg _ q_990) (fun _ h9 => h9) rfl dX7_statement_233 ?_
                refine lv_iconst (v := 0) hx hb dX7_statement_236 (by decide) ?_
                refine lv_iconst (v := 0) hx hb dX7_statement_237 (by decide) ?_
                refine lv_sipush (v := 900) hx hb dX7_statement_238 (by decide) ?_
                have : 0 ≤ (gi (C 0) 21).toInt ∧ (gi (C 0) 21).toInt ≤ 250 := fM_0_21 hT0
                have : 0 ≤ (gi (C 0) 7).toInt ∧ (gi (C 0) 7).toInt ≤ 250 := fM_0_7 hT0
                have : 0 ≤ (gi (C 0) 23).toInt ∧ (gi (C 0) 23).toInt ≤ 250 := fM_0_23 hT0
                have : 0 ≤ (gi (C 0) 13).toInt ∧ (gi (C 0) 13).toInt ≤ 5 := fM_0_13 hT0
                have : (24 : Int32).toInt = 24 := rfl
                have : (24 : Int32).toInt ≤ (gi (C 0) 9).toInt := Int32.le_iff_toInt_le.mp c_305
                have : (5 : Int32).toInt = 5 := rfl
                have : (5 : Int32).toInt ≤ (gi (C 0) 13).toInt := Int32.le_iff_toInt_le.mp c_368
                refine tm_V (As := [.ref (G (3 + 32)), .ref (a 13), .int 0, .int 0, .int 900]) (rest := []) ⟨hx, hb, hml, hown, htg⟩ (c_X7_told l D E G _ a C n hn hT 32 13 (0 : Int32) (0 : Int32) (900 : Int32) (by decide) ⟨(Nat.lt_of_lt_of_le (by decide) hn), (by decide), 3, fun C h => (sM_13 h), (rg_in (rg_c (v := 0) (lo := 0) (hi := 0) (by decide)) (by decide)), fun C v h h1 h2 => (h.up 13 (by decide) (tA_upd (tM_13 h) tA_any))⟩ (by omega)) (cwV 5 htg (oh_gV q_1234 q_1236 q_45 q_73 q_1237) rfl rfl rfl pdVX7_told ⟨Nat.le_of_ble_eq_true rfl, Nat.le_of_ble_eq_true rfl⟩) hK hP hD hG hS hA (va_recv hK hP (ci := 7) (q0 := 0) rfl (oh_wg (Nat.lt_of_lt_of_le (by decide) hn) (sM_0 hT))) rfl hl.1 rfl (Nat.le_of_ble_eq_true rfl) dX7_statement_241 ⟨Nat.le_of_ble_eq_true rfl, Nat.le_of_ble_eq_true rfl⟩ (fun r_381 C_382 H locs hq_383 hP hD hS => ?_)
                obtain ⟨hT, f_384, hq_383⟩ := hq_383
                have hF := fr_trk hF f_384 (by decide) (by decide)
                refine W.widen (k := 0) (n := 0) (Nat.le_refl _) (Nat.le_refl _) ?_
                have t_385 := hT
                have : (gi (C_382 0) 7).toInt = (gi (C 0) 7).toInt := congrArg (fun z => (vi z).toInt) (f_384.2 7 (by decide))
                have : (gi (C_382 0) 13).toInt = (gi (C 0) 13).toInt := congrArg (fun z => (vi z).toInt) (f_384.2 13 (by decide))
                have : 0 ≤ (gi (C_382 0) 21).toInt ∧ (gi (C_382 0) 21).toInt ≤ 250 := fM_0_21 t_385
                have : 0 ≤ (gi (C_382 0) 7).toInt ∧ (gi (C_382 0) 7).toInt ≤ 250 := fM_0_7 t_385
                have : 0 ≤ (gi (C_382 0) 23).toInt ∧ (gi (C_382 0) 23).toInt ≤ 250 := fM_0_23 t_385
                have : 0 ≤ (gi (C_382 0) 13).toInt ∧ (gi (C_382 0) 13).toInt ≤ 5 := fM_0_13 t_385
                rw [hQ]
                exact W.zret (v := r_381) (ty := .boolean) hx hb hr (oh_nb hq_383.1) (fun t ht hW => ⟨⟨r_381, C_382, rfl, ⟨hT, hF, ⟨hq_383.1, ⟨hq_383.2.1.1, hq_383.2.1.2⟩, (fun h9 => (hq_383.2.2.2.2 h9)), (RelW.fr hR (fr_trk (mc := [(13, 14)]) (mf := [21, 22, 23, 24, 25]) fr_rf f_384 (by decide) (by decide)) (by decide)), (by omega)⟩⟩, ⟨by rw [ht]; exact hP, hD⟩⟩, hS.F ht⟩) hS.2.2 dX7_statement_244
            · have u_386 := hq_370.2 c_371
              refine lv_aload_n hx hb dX7_statement_156 rfl (lv_at hl 0 rfl) ?_
              refine va_get (D := D) (ci := 7) (v := .int (gi (C 0) 15)) (C := RX7) (T := TX7) (N := 29) hx hb htg ig_7 hown hK hP 0 (oh_wg (Nat.lt_of_lt_of_le (by decide) hn) (sM_0 hT)) rfl 15 (by decide) (htg _ q_988) (fun _ h9 => h9) rfl dX7_statement_157 ?_
              refine lv_iconst (v := 5) hx hb dX7_statement_160 (by decide) ?_
              refine lv_icmp_ge (tgt := 220) hx hb dX7_statement_161 (by decide) (fun (c_387 : (5 : Int32) ≤ (gi (C 0) 15)) => ?_) (fun (c_387 : ¬ ((5 : Int32) ≤ (gi (C 0) 15))) => ?_)
              · refine lv_aload_n hx hb dX7_statement_220 rfl (lv_at hl 0 rfl) ?_
                refine va_ldcS hx hb hown (hG.2.2.1 ("OneHeavyLoadModel", 215, "load", 35) (List.mem_of_getElem? (i := 32) rfl)) dX7_statement_221 ?_
                refine tq_V (As := [.ref (G (3 + 32))]) (rest := []) (ws := (oh_W n a C)) ⟨hx, hb, hml, hown, htg⟩ (c_X7_isWord l D E G a C n hn hT 32 (by decide)) (cwV 1 htg (oh_gV q_1215 q_1217 q_41 q_73 q_1218) rfl rfl rfl pdVX7_isWord ⟨Nat.le_of_ble_eq_true rfl, Nat.le_of_ble_eq_true rfl⟩) hK hP hG hS (va_recv hK hP (ci := 7) (q0 := 0) rfl (oh_wg (Nat.lt_of_lt_of_le (by decide) hn) (sM_0 hT))) rfl hl.1 rfl (Nat.le_of_ble_eq_true rfl) dX7_statement_223 ⟨Nat.le_of_ble_eq_true rfl, Nat.le_of_ble_eq_true rfl⟩ (fun r_388 hq_389 => ?_)
                refine lv_if_eq (tgt := 245) hx hb dX7_statement_226 (by decide) (fun (c_390 : r_388 = 0) => ?_) (fun (c_390 : ¬ (r_388 = 0)) => ?_)
                · refine lv_aload_n hx hb dX7_statement_245 rfl (lv_at hl 0 rfl) ?_
                  refine va_ldcS hx hb hown (hG.2.2.1 ("OneHeavyLoadModel", 217, "mile", 36) (List.mem_of_getElem? (i := 33) rfl)) dX7_statement_246 ?_
                  refine lv_aload_n hx hb dX7_statement_248 rfl (lv_at hl 0 rfl) ?_
                  refine va_get (D := D) (ci := 7) (v := .ref (a 13)) (C := RX7) (T := TX7) (N := 29) hx hb htg ig_7 hown hK hP 0 (oh_wg (Nat.lt_of_lt_of_le (by decide) hn) (sM_0 hT)) rfl 17 (by decide) (htg _ q_990) (fun _ h9 => h9) rfl dX7_statement_249 ?_
                  refine lv_iconst (v := 1) hx hb dX7_statement_252 (by decide) ?_
                  refine lv_iconst (v := 0) hx hb dX7_statement_253 (by decide) ?_
                  refine lv_bipush (v := 99) hx hb dX7_statement_254 (by decide) ?_
                  have : 0 ≤ (gi (C 0) 21).toInt ∧ (gi (C 0) 21).toInt ≤ 250 := fM_0_21 hT0
                  have : 0 ≤ (gi (C 0) 7).toInt ∧ (gi (C 0) 7).toInt ≤ 250 := fM_0_7 hT0
                  have : 0 ≤ (gi (C 0) 23).toInt ∧ (gi (C 0) 23).toInt ≤ 250 := fM_0_23 hT0
                  have : 0 ≤ (gi (C 0) 13).toInt ∧ (gi (C 0) 13).toInt ≤ 5 := fM_0_13 hT0
                  have : (24 : Int32).toInt = 24 := rfl
                  have : (24 : Int32).toInt ≤ (gi (C 0) 9).toInt := Int32.le_iff_toInt_le.mp c_305
                  have : (5 : Int32).toInt = 5 := rfl
                  have : (5 : Int32).toInt ≤ (gi (C 0) 13).toInt := Int32.le_iff_toInt_le.mp c_368
                  have : (5 : Int32).toInt ≤ (gi (C 0) 15).toInt := Int32.le_iff_toInt_le.mp c_387
                  refine tm_V (As := [.ref (G (3 + 33)), .ref (a 13), .int 1, .int 0, .int 99]) (rest := []) ⟨hx, hb, hml, hown, htg⟩ (c_X7_told l D E G _ a C n hn hT 33 13 (1 : Int32) (0 : Int32) (99 : Int32) (by decide) ⟨(Nat.lt_of_lt_of_le (by decide) hn), (by decide), 3, fun C h => (sM_13 h), (rg_in (rg_c (v := 1) (lo := 1) (hi := 1) (by decide)) (by decide)), fun C v h h1 h2 => (h.up 13 (by decide) (tA_upd (tM_13 h) tA_any))⟩ (by omega)) (cwV 5 htg (oh_gV q_1234 q_1236 q_45 q_73 q_1237) rfl rfl rfl pdVX7_told ⟨Nat.le_of_ble_eq_true rfl, Nat.le_of_ble_eq_true rfl⟩) hK hP hD hG hS hA (va_recv hK hP (ci := 7) (q0 := 0) rfl (oh_wg (Nat.lt_of_lt_of_le (by decide) hn) (sM_0 hT))) rfl hl.1 rfl (Nat.le_of_ble_eq_true rfl) dX7_statement_256 ⟨Nat.le_of_ble_eq_true rfl, Nat.le_of_ble_eq_true rfl⟩ (fun r_391 C_392 H locs hq_393 hP hD hS => ?_)
                  obtain ⟨hT, f_394, hq_393⟩ := hq_393
                  have hF := fr_trk hF f_394 (by decide) (by decide)
                  refine W.widen (k := 0) (n := 0) (Nat.le_refl _) (Nat.le_refl _) ?_
                  have t_395 := hT
                  have : (gi (C_392 0) 7).toInt = (gi (C 0) 7).toInt := congrArg (fun z => (vi z).toInt) (f_394.2 7 (by decide))
                  have : (gi (C_392 0) 13).toInt = (gi (C 0) 13).toInt := congrArg (fun z => (vi z).toInt) (f_394.2 13 (by decide))
                  have : 0 ≤ (gi (C_392 0) 21).toInt ∧ (gi (C_392 0) 21).toInt ≤ 250 := fM_0_21 t_395
                  have : 0 ≤ (gi (C_392 0) 7).toInt ∧ (gi (C_392 0) 7).toInt ≤ 250 := fM_0_7 t_395
                  have : 0 ≤ (gi (C_392 0) 23).toInt ∧ (gi (C_392 0) 23).toInt ≤ 250 := fM_0_23 t_395
                  have : 0 ≤ (gi (C_392 0) 13).toInt ∧ (gi (C_392 0) 13).toInt ≤ 5 := fM_0_13 t_395
                  rw [hQ]
                  exact W.zret (v := r_391) (ty := .boolean) hx hb hr (oh_nb hq_393.1) (fun t ht hW => ⟨⟨r_391, C_392, rfl, ⟨hT, hF, ⟨hq_393.1, ⟨hq_393.2.1.1, hq_393.2.1.2⟩, (fun h9 => (hq_393.2.2.2.2 h9)), (RelW.fr hR (fr_trk (mc := [(13, 14)]) (mf := [21, 22, 23, 24, 25]) fr_rf f_394 (by decide) (by decide)) (by decide)), (by omega)⟩⟩, ⟨by rw [ht]; exact hP, hD⟩⟩, hS.F ht⟩) hS.2.2 dX7_statement_259
                · have u_396 := hq_389.2 c_390
                  refine lv_aload_n hx hb dX7_statement_229 rfl (lv_at hl 0 rfl) ?_
                  refine va_ldcS hx hb hown (hG.2.2.1 ("OneHeavyLoadModel", 215, "load", 35) (List.mem_of_getElem? (i := 32) rfl)) dX7_statement_230 ?_
                  refine lv_aload_n hx hb dX7_statement_232 rfl (lv_at hl 0 rfl) ?_
                  refine va_get (D := D) (ci := 7) (v := .ref (a 13)) (C := RX7) (T := TX7) (N := 29) hx hb htg ig_7 hown hK hP 0 (oh_wg (Nat.lt_of_lt_of_le (by decide) hn) (sM_0 hT)) rfl 17 (by decide) (htg _ q_990) (fun _ h9 => h9) rfl dX7_statement_233 ?_
                  refine lv_iconst (v := 0) hx hb dX7_statement_236 (by decide) ?_
                  refine lv_iconst (v := 0) hx hb dX7_statement_237 (by decide) ?_
                  refine lv_sipush (v := 900) hx hb dX7_statement_238 (by decide) ?_
                  have : 0 ≤ (gi (C 0) 21).toInt ∧ (gi (C 0) 21).toInt ≤ 250 := fM_0_21 hT0
                  have : 0 ≤ (gi (C 0) 7).toInt ∧ (gi (C 0) 7).toInt ≤ 250 := fM_0_7 hT0
                  have : 0 ≤ (gi (C 0) 23).toInt ∧ (gi (C 0) 23).toInt ≤ 250 := fM_0_23 hT0
                  have : 0 ≤ (gi (C 0) 13).toInt ∧ (gi (C 0) 13).toInt ≤ 5 := fM_0_13 hT0
                  have : (24 : Int32).toInt = 24 := rfl
                  have : (24 : Int32).toInt ≤ (gi (C 0) 9).toInt := Int32.le_iff_toInt_le.mp c_305
                  have : (5 : Int32).toInt = 5 := rfl
                  have : (5 : Int32).toInt ≤ (gi (C 0) 13).toInt := Int32.le_iff_toInt_le.mp c_368
                  have : (5 : Int32).toInt ≤ (gi (C 0) 15).toInt := Int32.le_iff_toInt_le.mp c_387
                  refine tm_V (As := [.ref (G (3 + 32)), .ref (a 13), .int 0, .int 0, .int 900]) (rest := []) ⟨hx, hb, hml, hown, htg⟩ (c_X7_told l D E G _ a C n hn hT 32 13 (0 : Int32) (0 : Int32) (900 : Int32) (by decide) ⟨(Nat.lt_of_lt_of_le (by decide) hn), (by decide), 3, fun C h => (sM_13 h), (rg_in (rg_c (v := 0) (lo := 0) (hi := 0) (by decide)) (by decide)), fun C v h h1 h2 => (h.up 13 (by decide) (tA_upd (tM_13 h) tA_any))⟩ (by omega)) (cwV 5 htg (oh_gV q_1234 q_1236 q_45 q_73 q_1237) rfl rfl rfl pdVX7_told ⟨Nat.le_of_ble_eq_true rfl, Nat.le_of_ble_eq_true rfl⟩) hK hP hD hG hS hA (va_recv hK hP (ci := 7) (q0 := 0) rfl (oh_wg (Nat.lt_of_lt_of_le (by decide) hn) (sM_0 hT))) rfl hl.1 rfl (Nat.le_of_ble_eq_true rfl) dX7_statement_241 ⟨Nat.le_of_ble_eq_true rfl, Nat.le_of_ble_eq_true rfl⟩ (fun r_397 C_398 H locs hq_399 hP hD hS => ?_)
                  obtain ⟨hT, f_400, hq_399⟩ := hq_399
                  have hF := fr_trk hF f_400 (by decide) (by decide)
                  refine W.widen (k := 0) (n := 0) (Nat.le_refl _) (Nat.le_refl _) ?_
                  have t_401 := hT
                  have : (gi (C_398 0) 7).toInt = (gi (C 0) 7).toInt := congrArg (fun z => (vi z).toInt) (f_400.2 7 (by decide))
                  have : (gi (C_398 0) 13).toInt = (gi (C 0) 13).toInt := congrArg (fun z => (vi z).toInt) (f_400.2 13 (by decide))
                  have : 0 ≤ (gi (C_398 0) 21).toInt ∧ (gi (C_398 0) 21).toInt ≤ 250 := fM_0_21 t_401
                  have : 0 ≤ (gi (C_398 0) 7).toInt ∧ (gi (C_398 0) 7).toInt ≤ 250 := fM_0_7 t_401
                  have : 0 ≤ (gi (C_398 0) 23).toInt ∧ (gi (C_398 0) 23).toInt ≤ 250 := fM_0_23 t_401
                  have : 0 ≤ (gi (C_398 0) 13).toInt ∧ (gi (C_398 0) 13).toInt ≤ 5 := fM_0_13 t_401
                  rw [hQ]
                  exact W.zret (v := r_397) (ty := .boolean) hx hb hr (oh_nb hq_399.1) (fun t ht hW => ⟨⟨r_397, C_398, rfl, ⟨hT, hF, ⟨hq_399.1, ⟨hq_399.2.1.1, hq_399.2.1.2⟩, (fun h9 => (hq_399.2.2.2.2 h9)), (RelW.fr hR (fr_trk (mc := [(13, 14)]) (mf := [21, 22, 23, 24, 25]) fr_rf f_400 (by decide) (by decide)) (by decide)), (by omega)⟩⟩, ⟨by rw [ht]; exact hP, hD⟩⟩, hS.F ht⟩) hS.2.2 dX7_statement_244
              · refine lv_aload_n hx hb dX7_statement_164 rfl (lv_at hl 0 rfl) ?_
                refine va_ldcS hx hb hown (hG.2.2.1 ("OneHeavyLoadModel", 214, "part", 34) (List.mem_of_getElem? (i := 31) rfl)) dX7_statement_165 ?_
                refine lv_aload_n hx hb dX7_statement_167 rfl (lv_at hl 0 rfl) ?_
                refine va_get (D := D) (ci := 7) (v := .ref (a 12)) (C := RX7) (T := TX7) (N := 29) hx hb htg ig_7 hown hK hP 0 (oh_wg (Nat.lt_of_lt_of_le (by decide) hn) (sM_0 hT)) rfl 16 (by decide) (htg _ q_989) (fun _ h9 => h9) rfl dX7_statement_168 ?_
                refine lv_aload_n hx hb dX7_statement_171 rfl (lv_at hl 0 rfl) ?_
                refine va_get (D := D) (ci := 7) (v := .int (gi (C 0) 15)) (C := RX7) (T := TX7) (N := 29) hx hb htg ig_7 hown hK hP 0 (oh_wg (Nat.lt_of_lt_of_le (by decide) hn) (sM_0 hT)) rfl 15 (by decide) (htg _ q_988) (fun _ h9 => h9) rfl dX7_statement_172 ?_
                have n_402 : vp_in (gi (C 0) 15) 5 := (rg_in (rn_ltu (u' := 4) (Int32.not_le.mp c_387) (fM_0_15 hT0) (rg_c (v := 5) (lo := 5) (hi := 5) (by decide)) (by decide)) (by decide))
                have b_403 : (gi (C 0) 15).toNatClampNeg < 5 := vp_lt n_402
                refine th_aald hx hb hK hP 12 2 (Nat.lt_of_lt_of_le (by decide) hn) (sM_12 hT) rfl n_402 dX7_statement_175 ?_
                refine lv_iconst (v := 0) hx hb dX7_statement_176 (by decide) ?_
                refine lv_iconst (v := 1) hx hb dX7_statement_177 (by decide) ?_
                refine lv_bipush (v := 99) hx hb dX7_statement_178 (by decide) ?_
                have : 0 ≤ (gi (C 0) 21).toInt ∧ (gi (C 0) 21).toInt ≤ 250 := fM_0_21 hT0
                have : 0 ≤ (gi (C 0) 7).toInt ∧ (gi (C 0) 7).toInt ≤ 250 := fM_0_7 hT0
                have : 0 ≤ (gi (C 0) 23).toInt ∧ (gi (C 0) 23).toInt ≤ 250 := fM_0_23 hT0
                have : 0 ≤ (gi (C 0) 13).toInt ∧ (gi (C 0) 13).toInt ≤ 5 := fM_0_13 hT0
                have : (24 : Int32).toInt = 24 := rfl
                have : (24 : Int32).toInt ≤ (gi (C 0) 9).toInt := Int32.le_iff_toInt_le.mp c_305
                have : (5 : Int32).toInt = 5 := rfl
                have : (5 : Int32).toInt ≤ (gi (C 0) 13).toInt := Int32.le_iff_toInt_le.mp c_368
                have : (gi (C 0) 15).toInt < (5 : Int32).toInt := Int32.lt_iff_toInt_lt.mp (Int32.not_le.mp c_387)
                refine tm_V (As := [.ref (G (3 + 31)), .ref (a (69 + (gi (C 0) 15).toNatClampNeg)), .int 0, .int 1, .int 99]) (rest := []) ⟨hx, hb, hml, hown, htg⟩ (c_X7_told l D E G _ a C n hn hT 31 (69 + (gi (C 0) 15).toNatClampNeg) (0 : Int32) (1 : Int32) (99 : Int32) (by decide) ⟨(lt_blk b_403 hn (by decide)), (by omega), 2, fun C h => (h.bpart b_403).1, (rg_in (rg_c (v := 0) (lo := 0) (hi := 0) (by decide)) (by decide)), fun C v h h1 h2 => (h.uppart b_403 (tA_upd (h.bpart b_403) tA_any))⟩ (by omega)) (cwV 5 htg (oh_gV q_1234 q_1236 q_45 q_73 q_1237) rfl rfl rfl pdVX7_told ⟨Nat.le_of_ble_eq_true rfl, Nat.le_of_ble_eq_true rfl⟩) hK hP hD hG hS hA (va_recv hK hP (ci := 7) (q0 := 0) rfl (oh_wg (Nat.lt_of_lt_of_le (by decide) hn) (sM_0 hT))) rfl hl.1 rfl (Nat.le_of_ble_eq_true rfl) dX7_statement_180 ⟨Nat.le_of_ble_eq_true rfl, Nat.le_of_ble_eq_true rfl⟩ (fun r_404 C_405 H locs hq_406 hP hD hS => ?_)
                obtain ⟨hT, f_407, hq_406⟩ := hq_406
                have hF := fr_trk hF f_407 (inR_of (p := (69, 74)) (by decide) (by show 69 ≤ _; omega) (by show _ < 74; omega)) (by decide)
                refine W.widen (k := 0) (n := 0) (Nat.le_refl _) (Nat.le_refl _) ?_
                have t_408 := hT
                refine lv_if_eq (tgt := 206) hx hb dX7_statement_183 (by decide) (fun (c_409 : r_404 = 0) => ?_) (fun (c_409 : ¬ (r_404 = 0)) => ?_)
                · refine lv_iconst (v := 0) hx hb dX7_statement_206 (by decide) ?_
                  have : (gi (C_405 0) 7).toInt = (gi (C 0) 7).toInt := congrArg (fun z => (vi z).toInt) (f_407.2 7 (by decide))
                  have : (gi (C_405 0) 13).toInt = (gi (C 0) 13).toInt := congrArg (fun z => (vi z).toInt) (f_407.2 13 (by decide))
                  have : 0 ≤ (gi (C_405 0) 21).toInt ∧ (gi (C_405 0) 21).toInt ≤ 250 := fM_0_21 t_408
                  have : 0 ≤ (gi (C_405 0) 7).toInt ∧ (gi (C_405 0) 7).toInt ≤ 250 := fM_0_7 t_408
                  have : 0 ≤ (gi (C_405 0) 23).toInt ∧ (gi (C_405 0) 23).toInt ≤ 250 := fM_0_23 t_408
                  have : 0 ≤ (gi (C_405 0) 13).toInt ∧ (gi (C_405 0) 13).toInt ≤ 5 := fM_0_13 t_408
                  rw [hQ]
                  exact W.zret (v := 0) (ty := .boolean) hx hb hr (by decide) (fun t ht hW => ⟨⟨0, C_405, rfl, ⟨hT, hF, ⟨(Or.inl rfl), ⟨hq_406.2.1.1, hq_406.2.1.2⟩, (fun h9 => absurd rfl h9), (RelW.fr hR (fr_trk (mc := [(69, 74)]) (mf := [21, 22, 23, 24, 25]) fr_rf f_407 (inR_of (p := (69, 74)) (by decide) (by show 69 ≤ _; omega) (by show _ < 74; omega)) (by decide)) (by decide)), (by omega)⟩⟩, ⟨by rw [ht]; exact hP, hD⟩⟩, hS.F ht⟩) hS.2.2 dX7_statement_207
                · have u_410 := hq_406.2.2.2.1 c_409
                  have u_411 := hq_406.2.2.2.2 c_409
                  refine lv_aload_n hx hb dX7_statement_186 rfl (lv_at hl 0 rfl) ?_
                  refine lv_aload_n hx hb dX7_statement_187 rfl (lv_at hl 0 rfl) ?_
                  refine va_get (D := D) (ci := 7) (v := .ref (a 12)) (C := RX7) (T := TX7) (N := 29) hx hb htg ig_7 hown hK hP 0 (oh_wg (Nat.lt_of_lt_of_le (by decide) hn) (sM_0 hT)) rfl 16 (by decide) (htg _ q_989) (fun _ h9 => h9) rfl dX7_statement_188 ?_
                  refine lv_aload_n hx hb dX7_statement_191 rfl (lv_at hl 0 rfl) ?_
                  refine va_get (D := D) (ci := 7) (v := .int (gi (C 0) 15)) (C := RX7) (T := TX7) (N := 29) hx hb htg ig_7 hown hK hP 0 (oh_wg (Nat.lt_of_lt_of_le (by decide) hn) (sM_0 hT)) rfl 15 (by decide) (htg _ q_988) (fun _ h9 => h9) (oh_fv (c := C_405 0) (j := 15) rfl (congrArg vi (f_407.2 15 (by decide)))) dX7_statement_192 ?_
                  have n_412 : vp_in (gi (C 0) 15) 5 := (rg_in (rn_ltu (u' := 4) (Int32.not_le.mp c_387) (fM_0_15 hT0) (rg_c (v := 5) (lo := 5) (hi := 5) (by decide)) (by decide)) (by decide))
                  have b_413 : (gi (C 0) 15).toNatClampNeg < 5 := vp_lt n_412
                  refine th_aald hx hb hK hP 12 2 (Nat.lt_of_lt_of_le (by decide) hn) (sM_12 hT) rfl n_412 dX7_statement_195 ?_
                  refine lv_iconst (v := 1) hx hb dX7_statement_196 (by decide) ?_
                  refine lv_iconst (v := 0) hx hb dX7_statement_197 (by decide) ?_
                  refine lv_bipush (v := 99) hx hb dX7_statement_198 (by decide) ?_
                  have : (gi (C_405 0) 7).toInt = (gi (C 0) 7).toInt := congrArg (fun z => (vi z).toInt) (f_407.2 7 (by decide))
                  have : (gi (C_405 0) 13).toInt = (gi (C 0) 13).toInt := congrArg (fun z => (vi z).toInt) (f_407.2 13 (by decide))
                  have : 0 ≤ (gi (C_405 0) 21).toInt ∧ (gi (C_405 0) 21).toInt ≤ 250 := fM_0_21 t_408
                  have : 0 ≤ (gi (C_405 0) 7).toInt ∧ (gi (C_405 0) 7).toInt ≤ 250 := fM_0_7 t_408
                  have : 0 ≤ (gi (C_405 0) 23).toInt ∧ (gi (C_405 0) 23).toInt ≤ 250 := fM_0_23 t_408
                  have : 0 ≤ (gi (C_405 0) 13).toInt ∧ (gi (C_405 0) 13).toInt ≤ 5 := fM_0_13 t_408
                  refine tm_V (As := [.ref (a (69 + (gi (C 0) 15).toNatClampNeg)), .int 1, .int 0, .int 99]) (rest := []) ⟨hx, hb, hml, hown, htg⟩ (c_X7_number l D E G _ a C_405 n hn hT (69 + (gi (C 0) 15).toNatClampNeg) (1 : Int32) (0 : Int32) (99 : Int32) ⟨(lt_blk b_413 hn (by decide)), (by omega), 2, fun C h => (h.bpart b_413).1, (rg_in (rg_c (v := 1) (lo := 1) (hi := 1) (by decide)) (by decide)), fun C v h h1 h2 => (h.uppart b_413 (tA_upd (h.bpart b_413) tA_any))⟩ (by omega)) (cwV 4 htg (oh_gV q_1225 q_1227 q_43 q_73 q_1228) rfl rfl rfl pdVX7_number ⟨Nat.le_of_ble_eq_true rfl, Nat.le_of_ble_eq_true rfl⟩) hK hP hD hG hS hA (va_recv hK hP (ci := 7) (q0 := 0) rfl (oh_wg (Nat.lt_of_lt_of_le (by decide) hn) (sM_0 hT))) rfl hl.1 rfl (Nat.le_of_ble_eq_true rfl) dX7_statement_200 ⟨Nat.le_of_ble_eq_true rfl, Nat.le_of_ble_eq_true rfl⟩ (fun r_414 C_415 H locs hq_416 hP hD hS => ?_)
                  obtain ⟨hT, f_417, hq_416⟩ := hq_416
                  have hF := fr_trk hF f_417 (inR_of (p := (69, 74)) (by decide) (by show 69 ≤ _; omega) (by show _ < 74; omega)) (by decide)
                  refine W.widen (k := 0) (n := 0) (Nat.le_refl _) (Nat.le_refl _) ?_
                  have t_418 := hT
                  refine lv_if_ne (tgt := 208) hx hb dX7_statement_203 (by decide) (fun (c_419 : ¬ (r_414 = 0)) => ?_) (fun (c_419 : r_414 = 0) => ?_)
                  · have u_420 := hq_416.2.2.2 c_419
                    refine lv_aload_n hx hb dX7_statement_208 rfl (lv_at hl 0 rfl) ?_
                    refine lv_dup hx hb dX7_statement_209 rfl ?_
                    refine va_get (D := D) (ci := 7) (v := .int (gi (C 0) 15)) (C := RX7) (T := TX7) (N := 29) hx hb htg ig_7 hown hK hP 0 (oh_wg (Nat.lt_of_lt_of_le (by decide) hn) (sM_0 hT)) rfl 15 (by decide) (htg _ q_988) (fun _ h9 => h9) (oh_fv (c := C_415 0) (j := 15) rfl (Eq.trans (congrArg vi (f_417.2 15 (by decide))) (congrArg vi (f_407.2 15 (by decide))))) dX7_statement_210 ?_
                    refine lv_iconst (v := 1) hx hb dX7_statement_213 (by decide) ?_
                    refine lv_iadd hx hb dX7_statement_214 ?_
                    refine th_put (Tp := TyM a E) (Rl := fr [(13, 14), (24, 48), (48, 64), (64, 69), (69, 74)] [9, 11, 13, 15, 21, 22, 23, 24, 25] C) (ci := 7) (v := .int ((gi (C 0) 15) + 1)) (ty := .int) (CC := RX7) (T := TX7) (N := 29) hx hb htg ig_7 tyX7 tyX7_ok nmX7 hown hK hP hD hS 0 (Nat.lt_of_lt_of_le (by decide) hn) (sM_0 hT) rfl 15 (by decide) (htg _ q_988) (fun _ h9 => h9) rfl (by decide +kernel) rfl rfl (Nat.le_of_ble_eq_true rfl) (hT.up 0 (by decide) ⟨rfl, (fM_0_7 hT), (fM_0_9 hT), (fM_0_11 hT), (fM_0_13 hT), (rg_w (rg_add (lo := 1) (hi := 5) (rn_ltu (u' := 4) (Int32.not_le.mp c_387) (fM_0_15 hT0) (rg_c (v := 5) (lo := 5) (hi := 5) (by decide)) (by decide)) (rg_c (v := 1) (lo := 1) (hi := 1) (by decide)) (by decide)) (by decide)), (fM_0_21 hT), (fM_0_23 hT)⟩) (fr_fd hF (sM_0 hT) (by decide)) dX7_statement_215 (fun C_421 H locs e_422 hT hF hP hD hS => ?_)
                    have t_423 := hT
                    refine lv_iconst (v := 1) hx hb dX7_statement_218 (by decide) ?_
                    have : (gi (C_415 0) 7).toInt = (gi (C_405 0) 7).toInt := congrArg (fun z => (vi z).toInt) (f_417.2 7 (by decide))
                    have : (gi (C_415 0) 13).toInt = (gi (C_405 0) 13).toInt := congrArg (fun z => (vi z).toInt) (f_417.2 13 (by decide))
                    have : (gi (C_421 0) 21).toInt = (gi (C_415 0) 21).toInt := congrArg Int32.toInt (show gi (C_421 0) 21 = gi (C_415 0) 21 by rw [e_422]; rfl)
                    have : (gi (C_421 0) 7).toInt = (gi (C_415 0) 7).toInt := congrArg Int32.toInt (show gi (C_421 0) 7 = gi (C_415 0) 7 by rw [e_422]; rfl)
                    have : (gi (C_421 0) 23).toInt = (gi (C_415 0) 23).toInt := congrArg Int32.toInt (show gi (C_421 0) 23 = gi (C_415 0) 23 by rw [e_422]; rfl)
                    have : (gi (C_421 0) 13).toInt = (gi (C_415 0) 13).toInt := congrArg Int32.toInt (show gi (C_421 0) 13 = gi (C_415 0) 13 by rw [e_422]; rfl)
                    have : 0 ≤ (gi (C_415 0) 21).toInt ∧ (gi (C_415 0) 21).toInt ≤ 250 := fM_0_21 t_418
                    have : 0 ≤ (gi (C_415 0) 7).toInt ∧ (gi (C_415 0) 7).toInt ≤ 250 := fM_0_7 t_418
                    have : 0 ≤ (gi (C_415 0) 23).toInt ∧ (gi (C_415 0) 23).toInt ≤ 250 := fM_0_23 t_418
                    have : 0 ≤ (gi (C_415 0) 13).toInt ∧ (gi (C_415 0) 13).toInt ≤ 5 := fM_0_13 t_418
                    have : 0 ≤ (gi (C_421 0) 21).toInt ∧ (gi (C_421 0) 21).toInt ≤ 250 := fM_0_21 t_423
                    have : 0 ≤ (gi (C_421 0) 7).toInt ∧ (gi (C_421 0) 7).toInt ≤ 250 := fM_0_7 t_423
                    have : 0 ≤ (gi (C_421 0) 23).toInt ∧ (gi (C_421 0) 23).toInt ≤ 250 := fM_0_23 t_423
                    have : 0 ≤ (gi (C_421 0) 13).toInt ∧ (gi (C_421 0) 13).toInt ≤ 5 := fM_0_13 t_423
                    rw [hQ]
                    exact W.zret (v := 1) (ty := .boolean) hx hb hr (by decide) (fun t ht hW => ⟨⟨1, C_421, rfl, ⟨hT, hF, ⟨(Or.inr rfl), ⟨(by omega), (by omega)⟩, (fun _ => (by omega)), (RelW.fr (RelW.fr (RelW.fr hR (fr_trk (mc := [(69, 74)]) (mf := [21, 22, 23, 24, 25]) fr_rf f_407 (inR_of (p := (69, 74)) (by decide) (by show 69 ≤ _; omega) (by show _ < 74; omega)) (by decide)) (by decide)) (fr_trk (mc := [(69, 74)]) (mf := [21, 22, 23, 24, 25]) fr_rf f_417 (inR_of (p := (69, 74)) (by decide) (by show 69 ≤ _; omega) (by show _ < 74; omega)) (by decide)) (by decide)) (fr_fde (mc := []) (mf := [15]) fr_rf e_422 (sM_0 t_418) (by decide)) (by decide)), (by omega)⟩⟩, ⟨by rw [ht]; exact hP, hD⟩⟩, hS.F ht⟩) hS.2.2 dX7_statement_219
                  · refine lv_iconst (v := 0) hx hb dX7_statement_206 (by decide) ?_
                    have : (gi (C_415 0) 7).toInt = (gi (C_405 0) 7).toInt := congrArg (fun z => (vi z).toInt) (f_417.2 7 (by decide))
                    have : (gi (C_415 0) 13).toInt = (gi (C_405 0) 13).toInt := congrArg (fun z => (vi z).toInt) (f_417.2 13 (by decide))
                    have : 0 ≤ (gi (C_415 0) 21).toInt ∧ (gi (C_415 0) 21).toInt ≤ 250 := fM_0_21 t_418
                    have : 0 ≤ (gi (C_415 0) 7).toInt ∧ (gi (C_415 0) 7).toInt ≤ 250 := fM_0_7 t_418
                    have : 0 ≤ (gi (C_415 0) 23).toInt ∧ (gi (C_415 0) 23).toInt ≤ 250 := fM_0_23 t_418
                    have : 0 ≤ (gi (C_415 0) 13).toInt ∧ (gi (C_415 0) 13).toInt ≤ 5 := fM_0_13 t_418
                    rw [hQ]
                    exact W.zret (v := 0) (ty := .boolean) hx hb hr (by decide) (fun t ht hW => ⟨⟨0, C_415, rfl, ⟨hT, hF, ⟨(Or.inl rfl), ⟨(by omega), hq_416.2.1.2⟩, (fun h9 => absurd rfl h9), (RelW.fr (RelW.fr hR (fr_trk (mc := [(69, 74)]) (mf := [21, 22, 23, 24, 25]) fr_rf f_407 (inR_of (p := (69, 74)) (by decide) (by show 69 ≤ _; omega) (by show _ < 74; omega)) (by decide)) (by decide)) (fr_trk (mc := [(69, 74)]) (mf := [21, 22, 23, 24, 25]) fr_rf f_417 (inR_of (p := (69, 74)) (by decide) (by show 69 ≤ _; omega) (by show _ < 74; omega)) (by decide)) (by decide)), (by omega)⟩⟩, ⟨by rw [ht]; exact hP, hD⟩⟩, hS.F ht⟩) hS.2.2 dX7_statement_207
          · refine lv_aload_n hx hb dX7_statement_81 rfl (lv_at hl 0 rfl) ?_
            refine va_get (D := D) (ci := 7) (v := .ref (a 11)) (C := RX7) (T := TX7) (N := 29) hx hb htg ig_7 hown hK hP 0 (oh_wg (Nat.lt_of_lt_of_le (by decide) hn) (sM_0 hT)) rfl 14 (by decide) (htg _ q_987) (fun _ h9 => h9) rfl dX7_statement_82 ?_
            refine lv_aload_n hx hb dX7_statement_85 rfl (lv_at hl 0 rfl) ?_
            refine va_get (D := D) (ci := 7) (v := .int (gi (C 0) 13)) (C := RX7) (T := TX7) (N := 29) hx hb htg ig_7 hown hK hP 0 (oh_wg (Nat.lt_of_lt_of_le (by decide) hn) (sM_0 hT)) rfl 13 (by decide) (htg _ q_986) (fun _ h9 => h9) rfl dX7_statement_86 ?_
            have n_424 : vp_in (gi (C 0) 13) 5 := (rg_in (rn_ltu (u' := 4) (Int32.not_le.mp c_368) (fM_0_13 hT0) (rg_c (v := 5) (lo := 5) (hi := 5) (by decide)) (by decide)) (by decide))
            have b_425 : (gi (C 0) 13).toNatClampNeg < 5 := vp_lt n_424
            refine th_aald hx hb hK hP 11 2 (Nat.lt_of_lt_of_le (by decide) hn) (sM_11 hT) rfl n_424 dX7_statement_89 ?_
            refine lv_astore_n (lv' := [(1, .ref (a (64 + (gi (C 0) 13).toNatClampNeg))), (0, .ref (a 0))]) hx hb dX7_statement_90 rfl hl (by decide) rfl (fun ls hl => ?_)
            refine lv_aload_n hx hb dX7_statement_91 rfl (lv_at hl 1 rfl) ?_
            refine va_ldcS hx hb hown (hG.2.2.1 ("OneHeavyLoadModel", 209, "waggon", 31) (List.mem_of_getElem? (i := 28) rfl)) dX7_statement_92 ?_
            refine lv_aload_n hx hb dX7_statement_94 rfl (lv_at hl 0 rfl) ?_
            refine lv_iconst (v := 0) hx hb dX7_statement_95 (by decide) ?_
            refine lv_iconst (v := 2) hx hb dX7_statement_96 (by decide) ?_
            refine lv_bipush (v := 12) hx hb dX7_statement_97 (by decide) ?_
            have : 0 ≤ (gi (C 0) 21).toInt ∧ (gi (C 0) 21).toInt ≤ 250 := fM_0_21 hT0
            have : 0 ≤ (gi (C 0) 7).toInt ∧ (gi (C 0) 7).toInt ≤ 250 := fM_0_7 hT0
            have : 0 ≤ (gi (C 0) 23).toInt ∧ (gi (C 0) 23).toInt ≤ 250 := fM_0_23 hT0
            have : 0 ≤ (gi (C 0) 13).toInt ∧ (gi (C 0) 13).toInt ≤ 5 := fM_0_13 hT0
            have : (24 : Int32).toInt = 24 := rfl
            have : (24 : Int32).toInt ≤ (gi (C 0) 9).toInt := Int32.le_iff_toInt_le.mp c_305
            have : (5 : Int32).toInt = 5 := rfl
            have : (gi (C 0) 13).toInt < (5 : Int32).toInt := Int32.lt_iff_toInt_lt.mp (Int32.not_le.mp c_368)
            refine tm_V (As := [.ref (G (3 + 28)), .ref (a (64 + (gi (C 0) 13).toNatClampNeg)), .int 0, .int 2, .int 12]) (rest := []) ⟨hx, hb, hml, hown, htg⟩ (c_X7_told l D E G _ a C n hn hT 28 (64 + (gi (C 0) 13).toNatClampNeg) (0 : Int32) (2 : Int32) (12 : Int32) (by decide) ⟨(lt_blk b_425 hn (by decide)), (by omega), 3, fun C h => (h.bwaggon b_425).1, (rg_in (rg_c (v := 0) (lo := 0) (hi := 0) (by decide)) (by decide)), fun C v h h1 h2 => (h.upwaggon b_425 (tA_upd (h.bwaggon b_425) (tA_stc (k := 0) (by decide) (oh_rgle (lo := 0) (hi := 12) h1 h2 (by decide)) (by decide))))⟩ (by omega)) (cwV 5 htg (oh_gV q_1234 q_1236 q_45 q_73 q_1237) rfl rfl rfl pdVX7_told ⟨Nat.le_of_ble_eq_true rfl, Nat.le_of_ble_eq_true rfl⟩) hK hP hD hG hS hA (va_recv hK hP (ci := 7) (q0 := 0) rfl (oh_wg (Nat.lt_of_lt_of_le (by decide) hn) (sM_0 hT))) rfl hl.1 rfl (Nat.le_of_ble_eq_true rfl) dX7_statement_99 ⟨Nat.le_of_ble_eq_true rfl, Nat.le_of_ble_eq_true rfl⟩ (fun r_426 C_427 H locs hq_428 hP hD hS => ?_)
            obtain ⟨hT, f_429, hq_428⟩ := hq_428
            have hF := fr_trk hF f_429 (inR_of (p := (64, 69)) (by decide) (by show 64 ≤ _; omega) (by show _ < 69; omega)) (by decide)
            refine W.widen (k := 0) (n := 0) (Nat.le_refl _) (Nat.le_refl _) ?_
            have t_430 := hT
            refine lv_if_eq (tgt := 133) hx hb dX7_statement_102 (by decide) (fun (c_431 : r_426 = 0) => ?_) (fun (c_431 : ¬ (r_426 = 0)) => ?_)
            · refine lv_iconst (v := 0) hx hb dX7_statement_133 (by decide) ?_
              have : (gi (C_427 0) 7).toInt = (gi (C 0) 7).toInt := congrArg (fun z => (vi z).toInt) (f_429.2 7 (by decide))
              have : (gi (C_427 0) 13).toInt = (gi (C 0) 13).toInt := congrArg (fun z => (vi z).toInt) (f_429.2 13 (by decide))
              have : 0 ≤ (gi (C_427 0) 21).toInt ∧ (gi (C_427 0) 21).toInt ≤ 250 := fM_0_21 t_430
              have : 0 ≤ (gi (C_427 0) 7).toInt ∧ (gi (C_427 0) 7).toInt ≤ 250 := fM_0_7 t_430
              have : 0 ≤ (gi (C_427 0) 23).toInt ∧ (gi (C_427 0) 23).toInt ≤ 250 := fM_0_23 t_430
              have : 0 ≤ (gi (C_427 0) 13).toInt ∧ (gi (C_427 0) 13).toInt ≤ 5 := fM_0_13 t_430
              rw [hQ]
              exact W.zret (v := 0) (ty := .boolean) hx hb hr (by decide) (fun t ht hW => ⟨⟨0, C_427, rfl, ⟨hT, hF, ⟨(Or.inl rfl), ⟨hq_428.2.1.1, hq_428.2.1.2⟩, (fun h9 => absurd rfl h9), (relW_row (w := (gi (C 0) 13).toNatClampNeg) hR f_429 (oh_nat (fM_0_13 hT0) (by decide)) (by decide)), (by omega)⟩⟩, ⟨by rw [ht]; exact hP, hD⟩⟩, hS.F ht⟩) hS.2.2 dX7_statement_134
            · have u_432 := hq_428.2.2.2.1 c_431
              have u_433 := hq_428.2.2.2.2 c_431
              refine lv_aload_n hx hb dX7_statement_105 rfl (lv_at hl 1 rfl) ?_
              refine va_ldcS hx hb hown (hG.2.2.1 ("OneHeavyLoadModel", 210, "space", 32) (List.mem_of_getElem? (i := 29) rfl)) dX7_statement_106 ?_
              refine lv_aload_n hx hb dX7_statement_108 rfl (lv_at hl 0 rfl) ?_
              refine lv_iconst (v := 1) hx hb dX7_statement_109 (by decide) ?_
              refine lv_iconst (v := 1) hx hb dX7_statement_110 (by decide) ?_
              refine lv_bipush (v := 9) hx hb dX7_statement_111 (by decide) ?_
              have : (gi (C_427 0) 7).toInt = (gi (C 0) 7).toInt := congrArg (fun z => (vi z).toInt) (f_429.2 7 (by decide))
              have : (gi (C_427 0) 13).toInt = (gi (C 0) 13).toInt := congrArg (fun z => (vi z).toInt) (f_429.2 13 (by decide))
              have : 0 ≤ (gi (C_427 0) 21).toInt ∧ (gi (C_427 0) 21).toInt ≤ 250 := fM_0_21 t_430
              have : 0 ≤ (gi (C_427 0) 7).toInt ∧ (gi (C_427 0) 7).toInt ≤ 250 := fM_0_7 t_430
              have : 0 ≤ (gi (C_427 0) 23).toInt ∧ (gi (C_427 0) 23).toInt ≤ 250 := fM_0_23 t_430
              have : 0 ≤ (gi (C_427 0) 13).toInt ∧ (gi (C_427 0) 13).toInt ≤ 5 := fM_0_13 t_430
              refine tm_V (As := [.ref (G (3 + 29)), .ref (a (64 + (gi (C 0) 13).toNatClampNeg)), .int 1, .int 1, .int 9]) (rest := []) ⟨hx, hb, hml, hown, htg⟩ (c_X7_told l D E G _ a C_427 n hn hT 29 (64 + (gi (C 0) 13).toNatClampNeg) (1 : Int32) (1 : Int32) (9 : Int32) (by decide) ⟨(lt_blk b_425 hn (by decide)), (by omega), 3, fun C h => (h.bwaggon b_425).1, (rg_in (rg_c (v := 1) (lo := 1) (hi := 1) (by decide)) (by decide)), fun C v h h1 h2 => (h.upwaggon b_425 (tA_upd (h.bwaggon b_425) (tA_stc (k := 1) (by decide) (oh_rgle (lo := 0) (hi := 9) h1 h2 (by decide)) (by decide))))⟩ (by omega)) (cwV 5 htg (oh_gV q_1234 q_1236 q_45 q_73 q_1237) rfl rfl rfl pdVX7_told ⟨Nat.le_of_ble_eq_true rfl, Nat.le_of_ble_eq_true rfl⟩) hK hP hD hG hS hA (va_recv hK hP (ci := 7) (q0 := 0) rfl (oh_wg (Nat.lt_of_lt_of_le (by decide) hn) (sM_0 hT))) rfl hl.1 rfl (Nat.le_of_ble_eq_true rfl) dX7_statement_113 ⟨Nat.le_of_ble_eq_true rfl, Nat.le_of_ble_eq_true rfl⟩ (fun r_434 C_435 H locs hq_436 hP hD hS => ?_)
              obtain ⟨hT, f_437, hq_436⟩ := hq_436
              have hF := fr_trk hF f_437 (inR_of (p := (64, 69)) (by decide) (by show 64 ≤ _; omega) (by show _ < 69; omega)) (by decide)
              refine W.widen (k := 0) (n := 0) (Nat.le_refl _) (Nat.le_refl _) ?_
              have t_438 := hT
              refine lv_if_eq (tgt := 133) hx hb dX7_statement_116 (by decide) (fun (c_439 : r_434 = 0) => ?_) (fun (c_439 : ¬ (r_434 = 0)) => ?_)
              · refine lv_iconst (v := 0) hx hb dX7_statement_133 (by decide) ?_
                have : (gi (C_435 0) 7).toInt = (gi (C_427 0) 7).toInt := congrArg (fun z => (vi z).toInt) (f_437.2 7 (by decide))
                have : (gi (C_435 0) 13).toInt = (gi (C_427 0) 13).toInt := congrArg (fun z => (vi z).toInt) (f_437.2 13 (by decide))
                have : 0 ≤ (gi (C_435 0) 21).toInt ∧ (gi (C_435 0) 21).toInt ≤ 250 := fM_0_21 t_438
                have : 0 ≤ (gi (C_435 0) 7).toInt ∧ (gi (C_435 0) 7).toInt ≤ 250 := fM_0_7 t_438
                have : 0 ≤ (gi (C_435 0) 23).toInt ∧ (gi (C_435 0) 23).toInt ≤ 250 := fM_0_23 t_438
                have : 0 ≤ (gi (C_435 0) 13).toInt ∧ (gi (C_435 0) 13).toInt ≤ 5 := fM_0_13 t_438
                rw [hQ]
                exact W.zret (v := 0) (ty := .boolean) hx hb hr (by decide) (fun t ht hW => ⟨⟨0, C_435, rfl, ⟨hT, hF, ⟨(Or.inl rfl), ⟨(by omega), hq_436.2.1.2⟩, (fun h9 => absurd rfl h9), (relW_row (w := (gi (C 0) 13).toNatClampNeg) (relW_row (w := (gi (C 0) 13).toNatClampNeg) hR f_429 (oh_nat (fM_0_13 hT0) (by decide)) (by decide)) f_437 (by rw [(show gi (C_427 0) 13 = gi (C 0) 13 from congrArg vi (f_429.2 13 (by decide)))]; exact oh_nat (fM_0_13 hT0) (by decide)) (by decide)), (by omega)⟩⟩, ⟨by rw [ht]; exact hP, hD⟩⟩, hS.F ht⟩) hS.2.2 dX7_statement_134
              · have u_440 := hq_436.2.2.2.1 c_439
                have u_441 := hq_436.2.2.2.2 c_439
                refine lv_aload_n hx hb dX7_statement_119 rfl (lv_at hl 1 rfl) ?_
                refine va_ldcS hx hb hown (hG.2.2.1 ("OneHeavyLoadModel", 212, "tare", 33) (List.mem_of_getElem? (i := 30) rfl)) dX7_statement_120 ?_
                refine lv_aload_n hx hb dX7_statement_122 rfl (lv_at hl 0 rfl) ?_
                refine lv_iconst (v := 2) hx hb dX7_statement_123 (by decide) ?_
                refine lv_iconst (v := 0) hx hb dX7_statement_124 (by decide) ?_
                refine lv_bipush (v := 99) hx hb dX7_statement_125 (by decide) ?_
                have : (gi (C_435 0) 7).toInt = (gi (C_427 0) 7).toInt := congrArg (fun z => (vi z).toInt) (f_437.2 7 (by decide))
                have : (gi (C_435 0) 13).toInt = (gi (C_427 0) 13).toInt := congrArg (fun z => (vi z).toInt) (f_437.2 13 (by decide))
                have : 0 ≤ (gi (C_435 0) 21).toInt ∧ (gi (C_435 0) 21).toInt ≤ 250 := fM_0_21 t_438
                have : 0 ≤ (gi (C_435 0) 7).toInt ∧ (gi (C_435 0) 7).toInt ≤ 250 := fM_0_7 t_438
                have : 0 ≤ (gi (C_435 0) 23).toInt ∧ (gi (C_435 0) 23).toInt ≤ 250 := fM_0_23 t_438
                have : 0 ≤ (gi (C_435 0) 13).toInt ∧ (gi (C_435 0) 13).toInt ≤ 5 := fM_0_13 t_438
                refine tm_V (As := [.ref (G (3 + 30)), .ref (a (64 + (gi (C 0) 13).toNatClampNeg)), .int 2, .int 0, .int 99]) (rest := []) ⟨hx, hb, hml, hown, htg⟩ (c_X7_told l D E G _ a C_435 n hn hT 30 (64 + (gi (C 0) 13).toNatClampNeg) (2 : Int32) (0 : Int32) (99 : Int32) (by decide) ⟨(lt_blk b_425 hn (by decide)), (by omega), 3, fun C h => (h.bwaggon b_425).1, (rg_in (rg_c (v := 2) (lo := 2) (hi := 2) (by decide)) (by decide)), fun C v h h1 h2 => (h.upwaggon b_425 (tA_upd (h.bwaggon b_425) (tA_stc (k := 2) (by decide) (rg_any _) (by decide))))⟩ (by omega)) (cwV 5 htg (oh_gV q_1234 q_1236 q_45 q_73 q_1237) rfl rfl rfl pdVX7_told ⟨Nat.le_of_ble_eq_true rfl, Nat.le_of_ble_eq_true rfl⟩) hK hP hD hG hS hA (va_recv hK hP (ci := 7) (q0 := 0) rfl (oh_wg (Nat.lt_of_lt_of_le (by decide) hn) (sM_0 hT))) rfl hl.1 rfl (Nat.le_of_ble_eq_true rfl) dX7_statement_127 ⟨Nat.le_of_ble_eq_true rfl, Nat.le_of_ble_eq_true rfl⟩ (fun r_442 C_443 H locs hq_444 hP hD hS => ?_)
                obtain ⟨hT, f_445, hq_444⟩ := hq_444
                have hF := fr_trk hF f_445 (inR_of (p := (64, 69)) (by decide) (by show 64 ≤ _; omega) (by show _ < 69; omega)) (by decide)
                refine W.widen (k := 0) (n := 0) (Nat.le_refl _) (Nat.le_refl _) ?_
                have t_446 := hT
                refine lv_if_ne (tgt := 135) hx hb dX7_statement_130 (by decide) (fun (c_447 : ¬ (r_442 = 0)) => ?_) (fun (c_447 : r_442 = 0) => ?_)
                · have u_448 := hq_444.2.2.2.1 c_447
                  have u_449 := hq_444.2.2.2.2 c_447
                  refine lv_aload_n hx hb dX7_statement_135 rfl (lv_at hl 1 rfl) ?_
                  refine lv_dup hx hb dX7_statement_136 rfl ?_
                  refine va_get (D := D) (ci := 7) (v := .int (gi (C 0) 13)) (C := RX7) (T := TX7) (N := 29) hx hb htg ig_7 hown hK hP 0 (oh_wg (Nat.lt_of_lt_of_le (by decide) hn) (sM_0 hT)) rfl 13 (by decide) (htg _ q_986) (fun _ h9 => h9) (oh_fv (c := C_443 0) (j := 13) rfl (Eq.trans (congrArg vi (f_445.2 13 (by decide))) (Eq.trans (congrArg vi (f_437.2 13 (by decide))) (congrArg vi (f_429.2 13 (by decide)))))) dX7_statement_137 ?_
                  refine lv_iconst (v := 1) hx hb dX7_statement_140 (by decide) ?_
                  refine lv_iadd hx hb dX7_statement_141 ?_
                  refine th_put (Tp := TyM a E) (Rl := fr [(13, 14), (24, 48), (48, 64), (64, 69), (69, 74)] [9, 11, 13, 15, 21, 22, 23, 24, 25] C) (ci := 7) (v := .int ((gi (C 0) 13) + 1)) (ty := .int) (CC := RX7) (T := TX7) (N := 29) hx hb htg ig_7 tyX7 tyX7_ok nmX7 hown hK hP hD hS 0 (Nat.lt_of_lt_of_le (by decide) hn) (sM_0 hT) rfl 13 (by decide) (htg _ q_986) (fun _ h9 => h9) rfl (by decide +kernel) rfl rfl (Nat.le_of_ble_eq_true rfl) (hT.up 0 (by decide) ⟨rfl, (fM_0_7 hT), (fM_0_9 hT), (fM_0_11 hT), (rg_w (rg_add (lo := 1) (hi := 5) (rn_ltu (u' := 4) (Int32.not_le.mp c_368) (fM_0_13 hT0) (rg_c (v := 5) (lo := 5) (hi := 5) (by decide)) (by decide)) (rg_c (v := 1) (lo := 1) (hi := 1) (by decide)) (by decide)) (by decide)), (fM_0_15 hT), (fM_0_21 hT), (fM_0_23 hT)⟩) (fr_fd hF (sM_0 hT) (by decide)) dX7_statement_142 (fun C_450 H locs e_451 hT hF hP hD hS => ?_)
                  have t_452 := hT
                  refine lv_iconst (v := 1) hx hb dX7_statement_145 (by decide) ?_
                  have : (gi (C_443 0) 7).toInt = (gi (C_435 0) 7).toInt := congrArg (fun z => (vi z).toInt) (f_445.2 7 (by decide))
                  have : (gi (C_443 0) 13).toInt = (gi (C_435 0) 13).toInt := congrArg (fun z => (vi z).toInt) (f_445.2 13 (by decide))
                  have : (gi (C_450 0) 21).toInt = (gi (C_443 0) 21).toInt := congrArg Int32.toInt (show gi (C_450 0) 21 = gi (C_443 0) 21 by rw [e_451]; rfl)
                  have : (gi (C_450 0) 7).toInt = (gi (C_443 0) 7).toInt := congrArg Int32.toInt (show gi (C_450 0) 7 = gi (C_443 0) 7 by rw [e_451]; rfl)
                  have : (gi (C_450 0) 23).toInt = (gi (C_443 0) 23).toInt := congrArg Int32.toInt (show gi (C_450 0) 23 = gi (C_443 0) 23 by rw [e_451]; rfl)
                  have : (gi (C_450 0) 13).toInt = ((gi (C 0) 13) + 1).toInt := congrArg Int32.toInt (show gi (C_450 0) 13 = ((gi (C 0) 13) + 1) by rw [e_451]; rfl)
                  have : ((gi (C 0) 13) + 1).toInt = (gi (C 0) 13).toInt + 1 := oh_incr (rn_ltu (u' := 4) (Int32.not_le.mp c_368) (fM_0_13 hT0) (rg_c (v := 5) (lo := 5) (hi := 5) (by decide)) (by decide)) (by decide)
                  have : 0 ≤ (gi (C_443 0) 21).toInt ∧ (gi (C_443 0) 21).toInt ≤ 250 := fM_0_21 t_446
                  have : 0 ≤ (gi (C_443 0) 7).toInt ∧ (gi (C_443 0) 7).toInt ≤ 250 := fM_0_7 t_446
                  have : 0 ≤ (gi (C_443 0) 23).toInt ∧ (gi (C_443 0) 23).toInt ≤ 250 := fM_0_23 t_446
                  have : 0 ≤ (gi (C_443 0) 13).toInt ∧ (gi (C_443 0) 13).toInt ≤ 5 := fM_0_13 t_446
                  have : 0 ≤ (gi (C_450 0) 21).toInt ∧ (gi (C_450 0) 21).toInt ≤ 250 := fM_0_21 t_452
                  have : 0 ≤ (gi (C_450 0) 7).toInt ∧ (gi (C_450 0) 7).toInt ≤ 250 := fM_0_7 t_452
                  have : 0 ≤ (gi (C_450 0) 23).toInt ∧ (gi (C_450 0) 23).toInt ≤ 250 := fM_0_23 t_452
                  have : 0 ≤ (gi (C_450 0) 13).toInt ∧ (gi (C_450 0) 13).toInt ≤ 5 := fM_0_13 t_452
                  rw [hQ]
                  exact W.zret (v := 1) (ty := .boolean) hx hb hr (by decide) (fun t ht hW => ⟨⟨1, C_450, rfl, ⟨hT, hF, ⟨(Or.inr rfl), ⟨(by omega), (by omega)⟩, (fun _ => (by omega)), (relW_inc (w := (gi (C 0) 13).toNatClampNeg) (relW_row (w := (gi (C 0) 13).toNatClampNeg) (relW_row (w := (gi (C 0) 13).toNatClampNeg) (relW_row (w := (gi (C 0) 13).toNatClampNeg) hR f_429 (oh_nat (fM_0_13 hT0) (by decide)) (by decide)) f_437 (by rw [(show gi (C_427 0) 13 = gi (C 0) 13 from congrArg vi (f_429.2 13 (by decide)))]; exact oh_nat (fM_0_13 hT0) (by decide)) (by decide)) f_445 (by rw [(Eq.trans (show gi (C_435 0) 13 = gi (C_427 0) 13 from congrArg vi (f_437.2 13 (by decide))) (show gi (C_427 0) 13 = gi (C 0) 13 from congrArg vi (f_429.2 13 (by decide))))]; exact oh_nat (fM_0_13 hT0) (by decide)) (by decide)) (by rw [(Eq.trans (show gi (C_443 0) 13 = gi (C_435 0) 13 from congrArg vi (f_445.2 13 (by decide))) (Eq.trans (show gi (C_435 0) 13 = gi (C_427 0) 13 from congrArg vi (f_437.2 13 (by decide))) (show gi (C_427 0) 13 = gi (C 0) 13 from congrArg vi (f_429.2 13 (by decide)))))]; exact oh_nat (fM_0_13 hT0) (by decide)) (fun k hk => th_un e_451 hk) (Eq.trans (congrArg Int32.toInt (show gi (C_450 0) 13 = (gi (C 0) 13) + 1 by rw [e_451]; rfl)) (by rw [(Eq.trans (show gi (C_443 0) 13 = gi (C_435 0) 13 from congrArg vi (f_445.2 13 (by decide))) (Eq.trans (show gi (C_435 0) 13 = gi (C_427 0) 13 from congrArg vi (f_437.2 13 (by decide))) (show gi (C_427 0) 13 = gi (C 0) 13 from congrArg vi (f_429.2 13 (by decide)))))]; exact oh_inc13 (fM_0_13 hT0))) (by rw [hq_444.2.2.1 _ (by decide), hq_436.2.2.1 _ (by decide)]; exact Int.le_trans (by decide) u_432) (by rw [hq_444.2.2.1 _ (by decide)]; exact Int.le_trans (by decide) u_440)), (by omega)⟩⟩, ⟨by rw [ht]; exact hP, hD⟩⟩, hS.F ht⟩) hS.2.2 dX7_statement_146
                · refine lv_iconst (v := 0) hx hb dX7_statement_133 (by decide) ?_
                  have : (gi (C_443 0) 7).toInt = (gi (C_435 0) 7).toInt := congrArg (fun z => (vi z).toInt) (f_445.2 7 (by decide))
                  have : (gi (C_443 0) 13).toInt = (gi (C_435 0) 13).toInt := congrArg (fun z => (vi z).toInt) (f_445.2 13 (by decide))
                  have : 0 ≤ (gi (C_443 0) 21).toInt ∧ (gi (C_443 0) 21).toInt ≤ 250 := fM_0_21 t_446
                  have : 0 ≤ (gi (C_443 0) 7).toInt ∧ (gi (C_443 0) 7).toInt ≤ 250 := fM_0_7 t_446
                  have : 0 ≤ (gi (C_443 0) 23).toInt ∧ (gi (C_443 0) 23).toInt ≤ 250 := fM_0_23 t_446
                  have : 0 ≤ (gi (C_443 0) 13).toInt ∧ (gi (C_443 0) 13).toInt ≤ 5 := fM_0_13 t_446
                  rw [hQ]
                  exact W.zret (v := 0) (ty := .boolean) hx hb hr (by decide) (fun t ht hW => ⟨⟨0, C_443, rfl, ⟨hT, hF, ⟨(Or.inl rfl), ⟨(by omega), hq_444.2.1.2⟩, (fun h9 => absurd rfl h9), (relW_row (w := (gi (C 0) 13).toNatClampNeg) (relW_row (w := (gi (C 0) 13).toNatClampNeg) (relW_row (w := (gi (C 0) 13).toNatClampNeg) hR f_429 (oh_nat (fM_0_13 hT0) (by decide)) (by decide)) f_437 (by rw [(show gi (C_427 0) 13 = gi (C 0) 13 from congrArg vi (f_429.2 13 (by decide)))]; exact oh_nat (fM_0_13 hT0) (by decide)) (by decide)) f_445 (by rw [(Eq.trans (show gi (C_435 0) 13 = gi (C_427 0) 13 from congrArg vi (f_437.2 13 (by decide))) (show gi (C_427 0) 13 = gi (C 0) 13 from congrArg vi (f_429.2 13 (by decide))))]; exact oh_nat (fM_0_13 hT0) (by decide)) (by decide)), (by omega)⟩⟩, ⟨by rw [ht]; exact hP, hD⟩⟩, hS.F ht⟩) hS.2.2 dX7_statement_134
      · have u_453 := hq_307.2 c_308
        refine lv_aload_n hx hb dX7_statement_41 rfl (lv_at hl 0 rfl) ?_
        refine va_get (D := D) (ci := 7) (v := .int (gi (C 0) 11)) (C := RX7) (T := TX7) (N := 29) hx hb htg ig_7 hown hK hP 0 (oh_wg (Nat.lt_of_lt_of_le (by decide) hn) (sM_0 hT)) rfl 11 (by decide) (htg _ q_984) (fun _ h9 => h9) rfl dX7_statement_42 ?_
        refine lv_bipush (v := 16) hx hb dX7_statement_45 (by decide) ?_
        refine lv_icmp_ge (tgt := 64) hx hb dX7_statement_47 (by decide) (fun (c_454 : (16 : Int32) ≤ (gi (C 0) 11)) => ?_) (fun (c_454 : ¬ ((16 : Int32) ≤ (gi (C 0) 11))) => ?_)
        · refine lv_aload_n hx hb dX7_statement_64 rfl (lv_at hl 0 rfl) ?_
          refine va_ldcS hx hb hown (hG.2.2.1 ("OneHeavyLoadModel", 209, "waggon", 31) (List.mem_of_getElem? (i := 28) rfl)) dX7_statement_65 ?_
          refine tq_V (As := [.ref (G (3 + 28))]) (rest := []) (ws := (oh_W n a C)) ⟨hx, hb, hml, hown, htg⟩ (c_X7_isWord l D E G a C n hn hT 28 (by decide)) (cwV 1 htg (oh_gV q_1215 q_1217 q_41 q_73 q_1218) rfl rfl rfl pdVX7_isWord ⟨Nat.le_of_ble_eq_true rfl, Nat.le_of_ble_eq_true rfl⟩) hK hP hG hS (va_recv hK hP (ci := 7) (q0 := 0) rfl (oh_wg (Nat.lt_of_lt_of_le (by decide) hn) (sM_0 hT))) rfl hl.1 rfl (Nat.le_of_ble_eq_true rfl) dX7_statement_67 ⟨Nat.le_of_ble_eq_true rfl, Nat.le_of_ble_eq_true rfl⟩ (fun r_455 hq_456 => ?_)
          refine lv_if_eq (tgt := 147) hx hb dX7_statement_70 (by decide) (fun (c_457 : r_455 = 0) => ?_) (fun (c_457 : ¬ (r_455 = 0)) => ?_)
          · refine lv_aload_n hx hb dX7_statement_147 rfl (lv_at hl 0 rfl) ?_
            refine va_ldcS hx hb hown (hG.2.2.1 ("OneHeavyLoadModel", 214, "part", 34) (List.mem_of_getElem? (i := 31) rfl)) dX7_statement_148 ?_
            refine tq_V (As := [.ref (G (3 + 31))]) (rest := []) (ws := (oh_W n a C)) ⟨hx, hb, hml, hown, htg⟩ (c_X7_isWord l D E G a C n hn hT 31 (by decide)) (cwV 1 htg (oh_gV q_1215 q_1217 q_41 q_73 q_1218) rfl rfl rfl pdVX7_isWord ⟨Nat.le_of_ble_eq_true rfl, Nat.le_of_ble_eq_true rfl⟩) hK hP hG hS (va_recv hK hP (ci := 7) (q0 := 0) rfl (oh_wg (Nat.lt_of_lt_of_le (by decide) hn) (sM_0 hT))) rfl hl.1 rfl (Nat.le_of_ble_eq_true rfl) dX7_statement_150 ⟨Nat.le_of_ble_eq_true rfl, Nat.le_of_ble_eq_true rfl⟩ (fun r_458 hq_459 => ?_)
            refine lv_if_eq (tgt := 220) hx hb dX7_statement_153 (by decide) (fun (c_460 : r_458 = 0) => ?_) (fun (c_460 : ¬ (r_458 = 0)) => ?_)
            · refine lv_aload_n hx hb dX7_statement_220 rfl (lv_at hl 0 rfl) ?_
              refine va_ldcS hx hb hown (hG.2.2.1 ("OneHeavyLoadModel", 215, "load", 35) (List.mem_of_getElem? (i := 32) rfl)) dX7_statement_221 ?_
              refine tq_V (As := [.ref (G (3 + 32))]) (rest := []) (ws := (oh_W n a C)) ⟨hx, hb, hml, hown, htg⟩ (c_X7_isWord l D E G a C n hn hT 32 (by decide)) (cwV 1 htg (oh_gV q_1215 q_1217 q_41 q_73 q_1218) rfl rfl rfl pdVX7_isWord ⟨Nat.le_of_ble_eq_true rfl, Nat.le_of_ble_eq_true rfl⟩) hK hP hG hS (va_recv hK hP (ci := 7) (q0 := 0) rfl (oh_wg (Nat.lt_of_lt_of_le (by decide) hn) (sM_0 hT))) rfl hl.1 rfl (Nat.le_of_ble_eq_true rfl) dX7_statement_223 ⟨Nat.le_of_ble_eq_true rfl, Nat.le_of_ble_eq_true rfl⟩ (fun r_461 hq_462 => ?_)
              refine lv_if_eq (tgt := 245) hx hb dX7_statement_226 (by decide) (fun (c_463 : r_461 = 0) => ?_) (fun (c_463 : ¬ (r_461 = 0)) => ?_)
              · refine lv_aload_n hx hb dX7_statement_245 rfl (lv_at hl 0 rfl) ?_
                refine va_ldcS hx hb hown (hG.2.2.1 ("OneHeavyLoadModel", 217, "mile", 36) (List.mem_of_getElem? (i := 33) rfl)) dX7_statement_246 ?_
                refine lv_aload_n hx hb dX7_statement_248 rfl (lv_at hl 0 rfl) ?_
                refine va_get (D := D) (ci := 7) (v := .ref (a 13)) (C := RX7) (T := TX7) (N := 29) hx hb htg ig_7 hown hK hP 0 (oh_wg (Nat.lt_of_lt_of_le (by decide) hn) (sM_0 hT)) rfl 17 (by decide) (htg _ q_990) (fun _ h9 => h9) rfl dX7_statement_249 ?_
                refine lv_iconst (v := 1) hx hb dX7_statement_252 (by decide) ?_
                refine lv_iconst (v := 0) hx hb dX7_statement_253 (by decide) ?_
                refine lv_bipush (v := 99) hx hb dX7_statement_254 (by decide) ?_
                have : 0 ≤ (gi (C 0) 21).toInt ∧ (gi (C 0) 21).toInt ≤ 250 := fM_0_21 hT0
                have : 0 ≤ (gi (C 0) 7).toInt ∧ (gi (C 0) 7).toInt ≤ 250 := fM_0_7 hT0
                have : 0 ≤ (gi (C 0) 23).toInt ∧ (gi (C 0) 23).toInt ≤ 250 := fM_0_23 hT0
                have : 0 ≤ (gi (C 0) 13).toInt ∧ (gi (C 0) 13).toInt ≤ 5 := fM_0_13 hT0
                have : (24 : Int32).toInt = 24 := rfl
                have : (24 : Int32).toInt ≤ (gi (C 0) 9).toInt := Int32.le_iff_toInt_le.mp c_305
                have : (16 : Int32).toInt = 16 := rfl
                have : (16 : Int32).toInt ≤ (gi (C 0) 11).toInt := Int32.le_iff_toInt_le.mp c_454
                refine tm_V (As := [.ref (G (3 + 33)), .ref (a 13), .int 1, .int 0, .int 99]) (rest := []) ⟨hx, hb, hml, hown, htg⟩ (c_X7_told l D E G _ a C n hn hT 33 13 (1 : Int32) (0 : Int32) (99 : Int32) (by decide) ⟨(Nat.lt_of_lt_of_le (by decide) hn), (by decide), 3, fun C h => (sM_13 h), (rg_in (rg_c (v := 1) (lo := 1) (hi := 1) (by decide)) (by decide)), fun C v h h1 h2 => (h.up 13 (by decide) (tA_upd (tM_13 h) tA_any))⟩ (by omega)) (cwV 5 htg (oh_gV q_1234 q_1236 q_45 q_73 q_1237) rfl rfl rfl pdVX7_told ⟨Nat.le_of_ble_eq_true rfl, Nat.le_of_ble_eq_true rfl⟩) hK hP hD hG hS hA (va_recv hK hP (ci := 7) (q0 := 0) rfl (oh_wg (Nat.lt_of_lt_of_le (by decide) hn) (sM_0 hT))) rfl hl.1 rfl (Nat.le_of_ble_eq_true rfl) dX7_statement_256 ⟨Nat.le_of_ble_eq_true rfl, Nat.le_of_ble_eq_true rfl⟩ (fun r_464 C_465 H locs hq_466 hP hD hS => ?_)
                obtain ⟨hT, f_467, hq_466⟩ := hq_466
                have hF := fr_trk hF f_467 (by decide) (by decide)
                refine W.widen (k := 0) (n := 0) (Nat.le_refl _) (Nat.le_refl _) ?_
                have t_468 := hT
                have : (gi (C_465 0) 7).toInt = (gi (C 0) 7).toInt := congrArg (fun z => (vi z).toInt) (f_467.2 7 (by decide))
                have : (gi (C_465 0) 13).toInt = (gi (C 0) 13).toInt := congrArg (fun z => (vi z).toInt) (f_467.2 13 (by decide))
                have : 0 ≤ (gi (C_465 0) 21).toInt ∧ (gi (C_465 0) 21).toInt ≤ 250 := fM_0_21 t_468
                have : 0 ≤ (gi (C_465 0) 7).toInt ∧ (gi (C_465 0) 7).toInt ≤ 250 := fM_0_7 t_468
                have : 0 ≤ (gi (C_465 0) 23).toInt ∧ (gi (C_465 0) 23).toInt ≤ 250 := fM_0_23 t_468
                have : 0 ≤ (gi (C_465 0) 13).toInt ∧ (gi (C_465 0) 13).toInt ≤ 5 := fM_0_13 t_468
                rw [hQ]
                exact W.zret (v := r_464) (ty := .boolean) hx hb hr (oh_nb hq_466.1) (fun t ht hW => ⟨⟨r_464, C_465, rfl, ⟨hT, hF, ⟨hq_466.1, ⟨hq_466.2.1.1, hq_466.2.1.2⟩, (fun h9 => (hq_466.2.2.2.2 h9)), (RelW.fr hR (fr_trk (mc := [(13, 14)]) (mf := [21, 22, 23, 24, 25]) fr_rf f_467 (by decide) (by decide)) (by decide)), (by omega)⟩⟩, ⟨by rw [ht]; exact hP, hD⟩⟩, hS.F ht⟩) hS.2.2 dX7_statement_259
              · have u_469 := hq_462.2 c_463
                refine lv_aload_n hx hb dX7_statement_229 rfl (lv_at hl 0 rfl) ?_
                refine va_ldcS hx hb hown (hG.2.2.1 ("OneHeavyLoadModel", 215, "load", 35) (List.mem_of_getElem? (i := 32) rfl)) dX7_statement_230 ?_
                refine lv_aload_n hx hb dX7_statement_232 rfl (lv_at hl 0 rfl) ?_
                refine va_get (D := D) (ci := 7) (v := .ref (a 13)) (C := RX7) (T := TX7) (N := 29) hx hb htg ig_7 hown hK hP 0 (oh_wg (Nat.lt_of_lt_of_le (by decide) hn) (sM_0 hT)) rfl 17 (by decide) (htg _ q_990) (fun _ h9 => h9) rfl dX7_statement_233 ?_
                refine lv_iconst (v := 0) hx hb dX7_statement_236 (by decide) ?_
                refine lv_iconst (v := 0) hx hb dX7_statement_237 (by decide) ?_
                refine lv_sipush (v := 900) hx hb dX7_statement_238 (by decide) ?_
                have : 0 ≤ (gi (C 0) 21).toInt ∧ (gi (C 0) 21).toInt ≤ 250 := fM_0_21 hT0
                have : 0 ≤ (gi (C 0) 7).toInt ∧ (gi (C 0) 7).toInt ≤ 250 := fM_0_7 hT0
                have : 0 ≤ (gi (C 0) 23).toInt ∧ (gi (C 0) 23).toInt ≤ 250 := fM_0_23 hT0
                have : 0 ≤ (gi (C 0) 13).toInt ∧ (gi (C 0) 13).toInt ≤ 5 := fM_0_13 hT0
                have : (24 : Int32).toInt = 24 := rfl
                have : (24 : Int32).toInt ≤ (gi (C 0) 9).toInt := Int32.le_iff_toInt_le.mp c_305
                have : (16 : Int32).toInt = 16 := rfl
                have : (16 : Int32).toInt ≤ (gi (C 0) 11).toInt := Int32.le_iff_toInt_le.mp c_454
                refine tm_V (As := [.ref (G (3 + 32)), .ref (a 13), .int 0, .int 0, .int 900]) (rest := []) ⟨hx, hb, hml, hown, htg⟩ (c_X7_told l D E G _ a C n hn hT 32 13 (0 : Int32) (0 : Int32) (900 : Int32) (by decide) ⟨(Nat.lt_of_lt_of_le (by decide) hn), (by decide), 3, fun C h => (sM_13 h), (rg_in (rg_c (v := 0) (lo := 0) (hi := 0) (by decide)) (by decide)), fun C v h h1 h2 => (h.up 13 (by decide) (tA_upd (tM_13 h) tA_any))⟩ (by omega)) (cwV 5 htg (oh_gV q_1234 q_1236 q_45 q_73 q_1237) rfl rfl rfl pdVX7_told ⟨Nat.le_of_ble_eq_true rfl, Nat.le_of_ble_eq_true rfl⟩) hK hP hD hG hS hA (va_recv hK hP (ci := 7) (q0 := 0) rfl (oh_wg (Nat.lt_of_lt_of_le (by decide) hn) (sM_0 hT))) rfl hl.1 rfl (Nat.le_of_ble_eq_true rfl) dX7_statement_241 ⟨Nat.le_of_ble_eq_true rfl, Nat.le_of_ble_eq_true rfl⟩ (fun r_470 C_471 H locs hq_472 hP hD hS => ?_)
                obtain ⟨hT, f_473, hq_472⟩ := hq_472
                have hF := fr_trk hF f_473 (by decide) (by decide)
                refine W.widen (k := 0) (n := 0) (Nat.le_refl _) (Nat.le_refl _) ?_
                have t_474 := hT
                have : (gi (C_471 0) 7).toInt = (gi (C 0) 7).toInt := congrArg (fun z => (vi z).toInt) (f_473.2 7 (by decide))
                have : (gi (C_471 0) 13).toInt = (gi (C 0) 13).toInt := congrArg (fun z => (vi z).toInt) (f_473.2 13 (by decide))
                have : 0 ≤ (gi (C_471 0) 21).toInt ∧ (gi (C_471 0) 21).toInt ≤ 250 := fM_0_21 t_474
                have : 0 ≤ (gi (C_471 0) 7).toInt ∧ (gi (C_471 0) 7).toInt ≤ 250 := fM_0_7 t_474
                have : 0 ≤ (gi (C_471 0) 23).toInt ∧ (gi (C_471 0) 23).toInt ≤ 250 := fM_0_23 t_474
                have : 0 ≤ (gi (C_471 0) 13).toInt ∧ (gi (C_471 0) 13).toInt ≤ 5 := fM_0_13 t_474
                rw [hQ]
                exact W.zret (v := r_470) (ty := .boolean) hx hb hr (oh_nb hq_472.1) (fun t ht hW => ⟨⟨r_470, C_471, rfl, ⟨hT, hF, ⟨hq_472.1, ⟨hq_472.2.1.1, hq_472.2.1.2⟩, (fun h9 => (hq_472.2.2.2.2 h9)), (RelW.fr hR (fr_trk (mc := [(13, 14)]) (mf := [21, 22, 23, 24, 25]) fr_rf f_473 (by decide) (by decide)) (by decide)), (by omega)⟩⟩, ⟨by rw [ht]; exact hP, hD⟩⟩, hS.F ht⟩) hS.2.2 dX7_statement_244
            · have u_475 := hq_459.2 c_460
              refine lv_aload_n hx hb dX7_statement_156 rfl (lv_at hl 0 rfl) ?_
              refine va_get (D := D) (ci := 7) (v := .int (gi (C 0) 15)) (C := RX7) (T := TX7) (N := 29) hx hb htg ig_7 hown hK hP 0 (oh_wg (Nat.lt_of_lt_of_le (by decide) hn) (sM_0 hT)) rfl 15 (by decide) (htg _ q_988) (fun _ h9 => h9) rfl dX7_statement_157 ?_
              refine lv_iconst (v := 5) hx hb dX7_statement_160 (by decide) ?_
              refine lv_icmp_ge (tgt := 220) hx hb dX7_statement_161 (by decide) (fun (c_476 : (5 : Int32) ≤ (gi (C 0) 15)) => ?_) (fun (c_476 : ¬ ((5 : Int32) ≤ (gi (C 0) 15))) => ?_)
              · refine lv_aload_n hx hb dX7_statement_220 rfl (lv_at hl 0 rfl) ?_
                refine va_ldcS hx hb hown (hG.2.2.1 ("OneHeavyLoadModel", 215, "load", 35) (List.mem_of_getElem? (i := 32) rfl)) dX7_statement_221 ?_
                refine tq_V (As := [.ref (G (3 + 32))]) (rest := []) (ws := (oh_W n a C)) ⟨hx, hb, hml, hown, htg⟩ (c_X7_isWord l D E G a C n hn hT 32 (by decide)) (cwV 1 htg (oh_gV q_1215 q_1217 q_41 q_73 q_1218) rfl rfl rfl pdVX7_isWord ⟨Nat.le_of_ble_eq_true rfl, Nat.le_of_ble_eq_true rfl⟩) hK hP hG hS (va_recv hK hP (ci := 7) (q0 := 0) rfl (oh_wg (Nat.lt_of_lt_of_le (by decide) hn) (sM_0 hT))) rfl hl.1 rfl (Nat.le_of_ble_eq_true rfl) dX7_statement_223 ⟨Nat.le_of_ble_eq_true rfl, Nat.le_of_ble_eq_true rfl⟩ (fun r_477 hq_478 => ?_)
                refine lv_if_eq (tgt := 245) hx hb dX7_statement_226 (by decide) (fun (c_479 : r_477 = 0) => ?_) (fun (c_479 : ¬ (r_477 = 0)) => ?_)
                · refine lv_aload_n hx hb dX7_statement_245 rfl (lv_at hl 0 rfl) ?_
                  refine va_ldcS hx hb hown (hG.2.2.1 ("OneHeavyLoadModel", 217, "mile", 36) (List.mem_of_getElem? (i := 33) rfl)) dX7_statement_246 ?_
                  refine lv_aload_n hx hb dX7_statement_248 rfl (lv_at hl 0 rfl) ?_
                  refine va_get (D := D) (ci := 7) (v := .ref (a 13)) (C := RX7) (T := TX7) (N := 29) hx hb htg ig_7 hown hK hP 0 (oh_wg (Nat.lt_of_lt_of_le (by decide) hn) (sM_0 hT)) rfl 17 (by decide) (htg _ q_990) (fun _ h9 => h9) rfl dX7_statement_249 ?_
                  refine lv_iconst (v := 1) hx hb dX7_statement_252 (by decide) ?_
                  refine lv_iconst (v := 0) hx hb dX7_statement_253 (by decide) ?_
                  refine lv_bipush (v := 99) hx hb dX7_statement_254 (by decide) ?_
                  have : 0 ≤ (gi (C 0) 21).toInt ∧ (gi (C 0) 21).toInt ≤ 250 := fM_0_21 hT0
                  have : 0 ≤ (gi (C 0) 7).toInt ∧ (gi (C 0) 7).toInt ≤ 250 := fM_0_7 hT0
                  have : 0 ≤ (gi (C 0) 23).toInt ∧ (gi (C 0) 23).toInt ≤ 250 := fM_0_23 hT0
                  have : 0 ≤ (gi (C 0) 13).toInt ∧ (gi (C 0) 13).toInt ≤ 5 := fM_0_13 hT0
                  have : (24 : Int32).toInt = 24 := rfl
                  have : (24 : Int32).toInt ≤ (gi (C 0) 9).toInt := Int32.le_iff_toInt_le.mp c_305
                  have : (16 : Int32).toInt = 16 := rfl
                  have : (16 : Int32).toInt ≤ (gi (C 0) 11).toInt := Int32.le_iff_toInt_le.mp c_454
                  have : (5 : Int32).toInt = 5 := rfl
                  have : (5 : Int32).toInt ≤ (gi (C 0) 15).toInt := Int32.le_iff_toInt_le.mp c_476
                  refine tm_V (As := [.ref (G (3 + 33)), .ref (a 13), .int 1, .int 0, .int 99]) (rest := []) ⟨hx, hb, hml, hown, htg⟩ (c_X7_told l D E G _ a C n hn hT 33 13 (1 : Int32) (0 : Int32) (99 : Int32) (by decide) ⟨(Nat.lt_of_lt_of_le (by decide) hn), (by decide), 3, fun C h => (sM_13 h), (rg_in (rg_c (v := 1) (lo := 1) (hi := 1) (by decide)) (by decide)), fun C v h h1 h2 => (h.up 13 (by decide) (tA_upd (tM_13 h) tA_any))⟩ (by omega)) (cwV 5 htg (oh_gV q_1234 q_1236 q_45 q_73 q_1237) rfl rfl rfl pdVX7_told ⟨Nat.le_of_ble_eq_true rfl, Nat.le_of_ble_eq_true rfl⟩) hK hP hD hG hS hA (va_recv hK hP (ci := 7) (q0 := 0) rfl (oh_wg (Nat.lt_of_lt_of_le (by decide) hn) (sM_0 hT))) rfl hl.1 rfl (Nat.le_of_ble_eq_true rfl) dX7_statement_256 ⟨Nat.le_of_ble_eq_true rfl, Nat.le_of_ble_eq_true rfl⟩ (fun r_480 C_481 H locs hq_482 hP hD hS => ?_)
                  obtain ⟨hT, f_483, hq_482⟩ := hq_482
                  have hF := fr_trk hF f_483 (by decide) (by decide)
                  refine W.widen (k := 0) (n := 0) (Nat.le_refl _) (Nat.le_refl _) ?_
                  have t_484 := hT
                  have : (gi (C_481 0) 7).toInt = (gi (C 0) 7).toInt := congrArg (fun z => (vi z).toInt) (f_483.2 7 (by decide))
                  have : (gi (C_481 0) 13).toInt = (gi (C 0) 13).toInt := congrArg (fun z => (vi z).toInt) (f_483.2 13 (by decide))
                  have : 0 ≤ (gi (C_481 0) 21).toInt ∧ (gi (C_481 0) 21).toInt ≤ 250 := fM_0_21 t_484
                  have : 0 ≤ (gi (C_481 0) 7).toInt ∧ (gi (C_481 0) 7).toInt ≤ 250 := fM_0_7 t_484
                  have : 0 ≤ (gi (C_481 0) 23).toInt ∧ (gi (C_481 0) 23).toInt ≤ 250 := fM_0_23 t_484
                  have : 0 ≤ (gi (C_481 0) 13).toInt ∧ (gi (C_481 0) 13).toInt ≤ 5 := fM_0_13 t_484
                  rw [hQ]
                  exact W.zret (v := r_480) (ty := .boolean) hx hb hr (oh_nb hq_482.1) (fun t ht hW => ⟨⟨r_480, C_481, rfl, ⟨hT, hF, ⟨hq_482.1, ⟨hq_482.2.1.1, hq_482.2.1.2⟩, (fun h9 => (hq_482.2.2.2.2 h9)), (RelW.fr hR (fr_trk (mc := [(13, 14)]) (mf := [21, 22, 23, 24, 25]) fr_rf f_483 (by decide) (by decide)) (by decide)), (by omega)⟩⟩, ⟨by rw [ht]; exact hP, hD⟩⟩, hS.F ht⟩) hS.2.2 dX7_statement_259
                · have u_485 := hq_478.2 c_479
                  refine lv_aload_n hx hb dX7_statement_229 rfl (lv_at hl 0 rfl) ?_
                  refine va_ldcS hx hb hown (hG.2.2.1 ("OneHeavyLoadModel", 215, "load", 35) (List.mem_of_getElem? (i := 32) rfl)) dX7_statement_230 ?_
                  refine lv_aload_n hx hb dX7_statement_232 rfl (lv_at hl 0 rfl) ?_
                  refine va_get (D := D) (ci := 7) (v := .ref (a 13)) (C := RX7) (T := TX7) (N := 29) hx hb htg ig_7 hown hK hP 0 (oh_wg (Nat.lt_of_lt_of_le (by decide) hn) (sM_0 hT)) rfl 17 (by decide) (htg _ q_990) (fun _ h9 => h9) rfl dX7_statement_233 ?_
                  refine lv_iconst (v := 0) hx hb dX7_statement_236 (by decide) ?_
                  refine lv_iconst (v := 0) hx hb dX7_statement_237 (by decide) ?_
                  refine lv_sipush (v := 900) hx hb dX7_statement_238 (by decide) ?_
                  have : 0 ≤ (gi (C 0) 21).toInt ∧ (gi (C 0) 21).toInt ≤ 250 := fM_0_21 hT0
                  have : 0 ≤ (gi (C 0) 7).toInt ∧ (gi (C 0) 7).toInt ≤ 250 := fM_0_7 hT0
                  have : 0 ≤ (gi (C 0) 23).toInt ∧ (gi (C 0) 23).toInt ≤ 250 := fM_0_23 hT0
                  have : 0 ≤ (gi (C 0) 13).toInt ∧ (gi (C 0) 13).toInt ≤ 5 := fM_0_13 hT0
                  have : (24 : Int32).toInt = 24 := rfl
                  have : (24 : Int32).toInt ≤ (gi (C 0) 9).toInt := Int32.le_iff_toInt_le.mp c_305
                  have : (16 : Int32).toInt = 16 := rfl
                  have : (16 : Int32).toInt ≤ (gi (C 0) 11).toInt := Int32.le_iff_toInt_le.mp c_454
                  have : (5 : Int32).toInt = 5 := rfl
                  have : (5 : Int32).toInt ≤ (gi (C 0) 15).toInt := Int32.le_iff_toInt_le.mp c_476
                  refine tm_V (As := [.ref (G (3 + 32)), .ref (a 13), .int 0, .int 0, .int 900]) (rest := []) ⟨hx, hb, hml, hown, htg⟩ (c_X7_told l D E G _ a C n hn hT 32 13 (0 : Int32) (0 : Int32) (900 : Int32) (by decide) ⟨(Nat.lt_of_lt_of_le (by decide) hn), (by decide), 3, fun C h => (sM_13 h), (rg_in (rg_c (v := 0) (lo := 0) (hi := 0) (by decide)) (by decide)), fun C v h h1 h2 => (h.up 13 (by decide) (tA_upd (tM_13 h) tA_any))⟩ (by omega)) (cwV 5 htg (oh_gV q_1234 q_1236 q_45 q_73 q_1237) rfl rfl rfl pdVX7_told ⟨Nat.le_of_ble_eq_true rfl, Nat.le_of_ble_eq_true rfl⟩) hK hP hD hG hS hA (va_recv hK hP (ci := 7) (q0 := 0) rfl (oh_wg (Nat.lt_of_lt_of_le (by decide) hn) (sM_0 hT))) rfl hl.1 rfl (Nat.le_of_ble_eq_true rfl) dX7_statement_241 ⟨Nat.le_of_ble_eq_true rfl, Nat.le_of_ble_eq_true rfl⟩ (fun r_486 C_487 H locs hq_488 hP hD hS => ?_)
                  obtain ⟨hT, f_489, hq_488⟩ := hq_488
                  have hF := fr_trk hF f_489 (by decide) (by decide)
                  refine W.widen (k := 0) (n := 0) (Nat.le_refl _) (Nat.le_refl _) ?_
                  have t_490 := hT
                  have : (gi (C_487 0) 7).toInt = (gi (C 0) 7).toInt := congrArg (fun z => (vi z).toInt) (f_489.2 7 (by decide))
                  have : (gi (C_487 0) 13).toInt = (gi (C 0) 13).toInt := congrArg (fun z => (vi z).toInt) (f_489.2 13 (by decide))
                  have : 0 ≤ (gi (C_487 0) 21).toInt ∧ (gi (C_487 0) 21).toInt ≤ 250 := fM_0_21 t_490
                  have : 0 ≤ (gi (C_487 0) 7).toInt ∧ (gi (C_487 0) 7).toInt ≤ 250 := fM_0_7 t_490
                  have : 0 ≤ (gi (C_487 0) 23).toInt ∧ (gi (C_487 0) 23).toInt ≤ 250 := fM_0_23 t_490
                  have : 0 ≤ (gi (C_487 0) 13).toInt ∧ (gi (C_487 0) 13).toInt ≤ 5 := fM_0_13 t_490
                  rw [hQ]
                  exact W.zret (v := r_486) (ty := .boolean) hx hb hr (oh_nb hq_488.1) (fun t ht hW => ⟨⟨r_486, C_487, rfl, ⟨hT, hF, ⟨hq_488.1, ⟨hq_488.2.1.1, hq_488.2.1.2⟩, (fun h9 => (hq_488.2.2.2.2 h9)), (RelW.fr hR (fr_trk (mc := [(13, 14)]) (mf := [21, 22, 23, 24, 25]) fr_rf f_489 (by decide) (by decide)) (by decide)), (by omega)⟩⟩, ⟨by rw [ht]; exact hP, hD⟩⟩, hS.F ht⟩) hS.2.2 dX7_statement_244
              · refine lv_aload_n hx hb dX7_statement_164 rfl (lv_at hl 0 rfl) ?_
                refine va_ldcS hx hb hown (hG.2.2.1 ("OneHeavyLoadModel", 214, "part", 34) (List.mem_of_getElem? (i := 31) rfl)) dX7_statement_165 ?_
                refine lv_aload_n hx hb dX7_statement_167 rfl (lv_at hl 0 rfl) ?_
                refine va_get (D := D) (ci := 7) (v := .ref (a 12)) (C := RX7) (T := TX7) (N := 29) hx hb htg ig_7 hown hK hP 0 (oh_wg (Nat.lt_of_lt_of_le (by decide) hn) (sM_0 hT)) rfl 16 (by decide) (htg _ q_989) (fun _ h9 => h9) rfl dX7_statement_168 ?_
                refine lv_aload_n hx hb dX7_statement_171 rfl (lv_at hl 0 rfl) ?_
                refine va_get (D := D) (ci := 7) (v := .int (gi (C 0) 15)) (C := RX7) (T := TX7) (N := 29) hx hb htg ig_7 hown hK hP 0 (oh_wg (Nat.lt_of_lt_of_le (by decide) hn) (sM_0 hT)) rfl 15 (by decide) (htg _ q_988) (fun _ h9 => h9) rfl dX7_statement_172 ?_
                have n_491 : vp_in (gi (C 0) 15) 5 := (rg_in (rn_ltu (u' := 4) (Int32.not_le.mp c_476) (fM_0_15 hT0) (rg_c (v := 5) (lo := 5) (hi := 5) (by decide)) (by decide)) (by decide))
                have b_492 : (gi (C 0) 15).toNatClampNeg < 5 := vp_lt n_491
                refine th_aald hx hb hK hP 12 2 (Nat.lt_of_lt_of_le (by decide) hn) (sM_12 hT) rfl n_491 dX7_statement_175 ?_
                refine lv_iconst (v := 0) hx hb dX7_statement_176 (by decide) ?_
                refine lv_iconst (v := 1) hx hb dX7_statement_177 (by decide) ?_
                refine lv_bipush (v := 99) hx hb dX7_statement_178 (by decide) ?_
                have : 0 ≤ (gi (C 0) 21).toInt ∧ (gi (C 0) 21).toInt ≤ 250 := fM_0_21 hT0
                have : 0 ≤ (gi (C 0) 7).toInt ∧ (gi (C 0) 7).toInt ≤ 250 := fM_0_7 hT0
                have : 0 ≤ (gi (C 0) 23).toInt ∧ (gi (C 0) 23).toInt ≤ 250 := fM_0_23 hT0
                have : 0 ≤ (gi (C 0) 13).toInt ∧ (gi (C 0) 13).toInt ≤ 5 := fM_0_13 hT0
                have : (24 : Int32).toInt = 24 := rfl
                have : (24 : Int32).toInt ≤ (gi (C 0) 9).toInt := Int32.le_iff_toInt_le.mp c_305
                have : (16 : Int32).toInt = 16 := rfl
                have : (16 : Int32).toInt ≤ (gi (C 0) 11).toInt := Int32.le_iff_toInt_le.mp c_454
                have : (5 : Int32).toInt = 5 := rfl
                have : (gi (C 0) 15).toInt < (5 : Int32).toInt := Int32.lt_iff_toInt_lt.mp (Int32.not_le.mp c_476)
                refine tm_V (As := [.ref (G (3 + 31)), .ref (a (69 + (gi (C 0) 15).toNatClampNeg)), .int 0, .int 1, .int 99]) (rest := []) ⟨hx, hb, hml, hown, htg⟩ (c_X7_told l D E G _ a C n hn hT 31 (69 + (gi (C 0) 15).toNatClampNeg) (0 : Int32) (1 : Int32) (99 : Int32) (by decide) ⟨(lt_blk b_492 hn (by decide)), (by omega), 2, fun C h => (h.bpart b_492).1, (rg_in (rg_c (v := 0) (lo := 0) (hi := 0) (by decide)) (by decide)), fun C v h h1 h2 => (h.uppart b_492 (tA_upd (h.bpart b_492) tA_any))⟩ (by omega)) (cwV 5 htg (oh_gV q_1234 q_1236 q_45 q_73 q_1237) rfl rfl rfl pdVX7_told ⟨Nat.le_of_ble_eq_true rfl, Nat.le_of_ble_eq_true rfl⟩) hK hP hD hG hS hA (va_recv hK hP (ci := 7) (q0 := 0) rfl (oh_wg (Nat.lt_of_lt_of_le (by decide) hn) (sM_0 hT))) rfl hl.1 rfl (Nat.le_of_ble_eq_true rfl) dX7_statement_180 ⟨Nat.le_of_ble_eq_true rfl, Nat.le_of_ble_eq_true rfl⟩ (fun r_493 C_494 H locs hq_495 hP hD hS => ?_)
                obtain ⟨hT, f_496, hq_495⟩ := hq_495
                have hF := fr_trk hF f_496 (inR_of (p := (69, 74)) (by decide) (by show 69 ≤ _; omega) (by show _ < 74; omega)) (by decide)
                refine W.widen (k := 0) (n := 0) (Nat.le_refl _) (Nat.le_refl _) ?_
                have t_497 := hT
                refine lv_if_eq (tgt := 206) hx hb dX7_statement_183 (by decide) (fun (c_498 : r_493 = 0) => ?_) (fun (c_498 : ¬ (r_493 = 0)) => ?_)
                · refine lv_iconst (v := 0) hx hb dX7_statement_206 (by decide) ?_
                  have : (gi (C_494 0) 7).toInt = (gi (C 0) 7).toInt := congrArg (fun z => (vi z).toInt) (f_496.2 7 (by decide))
                  have : (gi (C_494 0) 13).toInt = (gi (C 0) 13).toInt := congrArg (fun z => (vi z).toInt) (f_496.2 13 (by decide))
                  have : 0 ≤ (gi (C_494 0) 21).toInt ∧ (gi (C_494 0) 21).toInt ≤ 250 := fM_0_21 t_497
                  have : 0 ≤ (gi (C_494 0) 7).toInt ∧ (gi (C_494 0) 7).toInt ≤ 250 := fM_0_7 t_497
                  have : 0 ≤ (gi (C_494 0) 23).toInt ∧ (gi (C_494 0) 23).toInt ≤ 250 := fM_0_23 t_497
                  have : 0 ≤ (gi (C_494 0) 13).toInt ∧ (gi (C_494 0) 13).toInt ≤ 5 := fM_0_13 t_497
                  rw [hQ]
                  exact W.zret (v := 0) (ty := .boolean) hx hb hr (by decide) (fun t ht hW => ⟨⟨0, C_494, rfl, ⟨hT, hF, ⟨(Or.inl rfl), ⟨hq_495.2.1.1, hq_495.2.1.2⟩, (fun h9 => absurd rfl h9), (RelW.fr hR (fr_trk (mc := [(69, 74)]) (mf := [21, 22, 23, 24, 25]) fr_rf f_496 (inR_of (p := (69, 74)) (by decide) (by show 69 ≤ _; omega) (by show _ < 74; omega)) (by decide)) (by decide)), (by omega)⟩⟩, ⟨by rw [ht]; exact hP, hD⟩⟩, hS.F ht⟩) hS.2.2 dX7_statement_207
                · have u_499 := hq_495.2.2.2.1 c_498
                  have u_500 := hq_495.2.2.2.2 c_498
                  refine lv_aload_n hx hb dX7_statement_186 rfl (lv_at hl 0 rfl) ?_
                  refine lv_aload_n hx hb dX7_statement_187 rfl (lv_at hl 0 rfl) ?_
                  refine va_get (D := D) (ci := 7) (v := .ref (a 12)) (C := RX7) (T := TX7) (N := 29) hx hb htg ig_7 hown hK hP 0 (oh_wg (Nat.lt_of_lt_of_le (by decide) hn) (sM_0 hT)) rfl 16 (by decide) (htg _ q_989) (fun _ h9 => h9) rfl dX7_statement_188 ?_
                  refine lv_aload_n hx hb dX7_statement_191 rfl (lv_at hl 0 rfl) ?_
                  refine va_get (D := D) (ci := 7) (v := .int (gi (C 0) 15)) (C := RX7) (T := TX7) (N := 29) hx hb htg ig_7 hown hK hP 0 (oh_wg (Nat.lt_of_lt_of_le (by decide) hn) (sM_0 hT)) rfl 15 (by decide) (htg _ q_988) (fun _ h9 => h9) (oh_fv (c := C_494 0) (j := 15) rfl (congrArg vi (f_496.2 15 (by decide)))) dX7_statement_192 ?_
                  have n_501 : vp_in (gi (C 0) 15) 5 := (rg_in (rn_ltu (u' := 4) (Int32.not_le.mp c_476) (fM_0_15 hT0) (rg_c (v := 5) (lo := 5) (hi := 5) (by decide)) (by decide)) (by decide))
                  have b_502 : (gi (C 0) 15).toNatClampNeg < 5 := vp_lt n_501
                  refine th_aald hx hb hK hP 12 2 (Nat.lt_of_lt_of_le (by decide) hn) (sM_12 hT) rfl n_501 dX7_statement_195 ?_
                  refine lv_iconst (v := 1) hx hb dX7_statement_196 (by decide) ?_
                  refine lv_iconst (v := 0) hx hb dX7_statement_197 (by decide) ?_
                  refine lv_bipush (v := 99) hx hb dX7_statement_198 (by decide) ?_
                  have : (gi (C_494 0) 7).toInt = (gi (C 0) 7).toInt := congrArg (fun z => (vi z).toInt) (f_496.2 7 (by decide))
                  have : (gi (C_494 0) 13).toInt = (gi (C 0) 13).toInt := congrArg (fun z => (vi z).toInt) (f_496.2 13 (by decide))
                  have : 0 ≤ (gi (C_494 0) 21).toInt ∧ (gi (C_494 0) 21).toInt ≤ 250 := fM_0_21 t_497
                  have : 0 ≤ (gi (C_494 0) 7).toInt ∧ (gi (C_494 0) 7).toInt ≤ 250 := fM_0_7 t_497
                  have : 0 ≤ (gi (C_494 0) 23).toInt ∧ (gi (C_494 0) 23).toInt ≤ 250 := fM_0_23 t_497
                  have : 0 ≤ (gi (C_494 0) 13).toInt ∧ (gi (C_494 0) 13).toInt ≤ 5 := fM_0_13 t_497
                  refine tm_V (As := [.ref (a (69 + (gi (C 0) 15).toNatClampNeg)), .int 1, .int 0, .int 99]) (rest := []) ⟨hx, hb, hml, hown, htg⟩ (c_X7_number l D E G _ a C_494 n hn hT (69 + (gi (C 0) 15).toNatClampNeg) (1 : Int32) (0 : Int32) (99 : Int32) ⟨(lt_blk b_502 hn (by decide)), (by omega), 2, fun C h => (h.bpart b_502).1, (rg_in (rg_c (v := 1) (lo := 1) (hi := 1) (by decide)) (by decide)), fun C v h h1 h2 => (h.uppart b_502 (tA_upd (h.bpart b_502) tA_any))⟩ (by omega)) (cwV 4 htg (oh_gV q_1225 q_1227 q_43 q_73 q_1228) rfl rfl rfl pdVX7_number ⟨Nat.le_of_ble_eq_true rfl, Nat.le_of_ble_eq_true rfl⟩) hK hP hD hG hS hA (va_recv hK hP (ci := 7) (q0 := 0) rfl (oh_wg (Nat.lt_of_lt_of_le (by decide) hn) (sM_0 hT))) rfl hl.1 rfl (Nat.le_of_ble_eq_true rfl) dX7_statement_200 ⟨Nat.le_of_ble_eq_true rfl, Nat.le_of_ble_eq_true rfl⟩ (fun r_503 C_504 H locs hq_505 hP hD hS => ?_)
                  obtain ⟨hT, f_506, hq_505⟩ := hq_505
                  have hF := fr_trk hF f_506 (inR_of (p := (69, 74)) (by decide) (by show 69 ≤ _; omega) (by show _ < 74; omega)) (by decide)
                  refine W.widen (k := 0) (n := 0) (Nat.le_refl _) (Nat.le_refl _) ?_
                  have t_507 := hT
                  refine lv_if_ne (tgt := 208) hx hb dX7_statement_203 (by decide) (fun (c_508 : ¬ (r_503 = 0)) => ?_) (fun (c_508 : r_503 = 0) => ?_)
                  · have u_509 := hq_505.2.2.2 c_508
                    refine lv_aload_n hx hb dX7_statement_208 rfl (lv_at hl 0 rfl) ?_
                    refine lv_dup hx hb dX7_statement_209 rfl ?_
                    refine va_get (D := D) (ci := 7) (v := .int (gi (C 0) 15)) (C := RX7) (T := TX7) (N := 29) hx hb htg ig_7 hown hK hP 0 (oh_wg (Nat.lt_of_lt_of_le (by decide) hn) (sM_0 hT)) rfl 15 (by decide) (htg _ q_988) (fun _ h9 => h9) (oh_fv (c := C_504 0) (j := 15) rfl (Eq.trans (congrArg vi (f_506.2 15 (by decide))) (congrArg vi (f_496.2 15 (by decide))))) dX7_statement_210 ?_
                    refine lv_iconst (v := 1) hx hb dX7_statement_213 (by decide) ?_
                    refine lv_iadd hx hb dX7_statement_214 ?_
                    refine th_put (Tp := TyM a E) (Rl := fr [(13, 14), (24, 48), (48, 64), (64, 69), (69, 74)] [9, 11, 13, 15, 21, 22, 23, 24, 25] C) (ci := 7) (v := .int ((gi (C 0) 15) + 1)) (ty := .int) (CC := RX7) (T := TX7) (N := 29) hx hb htg ig_7 tyX7 tyX7_ok nmX7 hown hK hP hD hS 0 (Nat.lt_of_lt_of_le (by decide) hn) (sM_0 hT) rfl 15 (by decide) (htg _ q_988) (fun _ h9 => h9) rfl (by decide +kernel) rfl rfl (Nat.le_of_ble_eq_true rfl) (hT.up 0 (by decide) ⟨rfl, (fM_0_7 hT), (fM_0_9 hT), (fM_0_11 hT), (fM_0_13 hT), (rg_w (rg_add (lo := 1) (hi := 5) (rn_ltu (u' := 4) (Int32.not_le.mp c_476) (fM_0_15 hT0) (rg_c (v := 5) (lo := 5) (hi := 5) (by decide)) (by decide)) (rg_c (v := 1) (lo := 1) (hi := 1) (by decide)) (by decide)) (by decide)), (fM_0_21 hT), (fM_0_23 hT)⟩) (fr_fd hF (sM_0 hT) (by decide)) dX7_statement_215 (fun C_510 H locs e_511 hT hF hP hD hS => ?_)
                    have t_512 := hT
                    refine lv_iconst (v := 1) hx hb dX7_statement_218 (by decide) ?_
                    have : (gi (C_504 0) 7).toInt = (gi (C_494 0) 7).toInt := congrArg (fun z => (vi z).toInt) (f_506.2 7 (by decide))
                    have : (gi (C_504 0) 13).toInt = (gi (C_494 0) 13).toInt := congrArg (fun z => (vi z).toInt) (f_506.2 13 (by decide))
                    have : (gi (C_510 0) 21).toInt = (gi (C_504 0) 21).toInt := congrArg Int32.toInt (show gi (C_510 0) 21 = gi (C_504 0) 21 by rw [e_511]; rfl)
                    have : (gi (C_510 0) 7).toInt = (gi (C_504 0) 7).toInt := congrArg Int32.toInt (show gi (C_510 0) 7 = gi (C_504 0) 7 by rw [e_511]; rfl)
                    have : (gi (C_510 0) 23).toInt = (gi (C_504 0) 23).toInt := congrArg Int32.toInt (show gi (C_510 0) 23 = gi (C_504 0) 23 by rw [e_511]; rfl)
                    have : (gi (C_510 0) 13).toInt = (gi (C_504 0) 13).toInt := congrArg Int32.toInt (show gi (C_510 0) 13 = gi (C_504 0) 13 by rw [e_511]; rfl)
                    have : 0 ≤ (gi (C_504 0) 21).toInt ∧ (gi (C_504 0) 21).toInt ≤ 250 := fM_0_21 t_507
                    have : 0 ≤ (gi (C_504 0) 7).toInt ∧ (gi (C_504 0) 7).toInt ≤ 250 := fM_0_7 t_507
                    have : 0 ≤ (gi (C_504 0) 23).toInt ∧ (gi (C_504 0) 23).toInt ≤ 250 := fM_0_23 t_507
                    have : 0 ≤ (gi (C_504 0) 13).toInt ∧ (gi (C_504 0) 13).toInt ≤ 5 := fM_0_13 t_507
                    have : 0 ≤ (gi (C_510 0) 21).toInt ∧ (gi (C_510 0) 21).toInt ≤ 250 := fM_0_21 t_512
                    have : 0 ≤ (gi (C_510 0) 7).toInt ∧ (gi (C_510 0) 7).toInt ≤ 250 := fM_0_7 t_512
                    have : 0 ≤ (gi (C_510 0) 23).toInt ∧ (gi (C_510 0) 23).toInt ≤ 250 := fM_0_23 t_512
                    have : 0 ≤ (gi (C_510 0) 13).toInt ∧ (gi (C_510 0) 13).toInt ≤ 5 := fM_0_13 t_512
                    rw [hQ]
                    exact W.zret (v := 1) (ty := .boolean) hx hb hr (by decide) (fun t ht hW => ⟨⟨1, C_510, rfl, ⟨hT, hF, ⟨(Or.inr rfl), ⟨(by omega), (by omega)⟩, (fun _ => (by omega)), (RelW.fr (RelW.fr (RelW.fr hR (fr_trk (mc := [(69, 74)]) (mf := [21, 22, 23, 24, 25]) fr_rf f_496 (inR_of (p := (69, 74)) (by decide) (by show 69 ≤ _; omega) (by show _ < 74; omega)) (by decide)) (by decide)) (fr_trk (mc := [(69, 74)]) (mf := [21, 22, 23, 24, 25]) fr_rf f_506 (inR_of (p := (69, 74)) (by decide) (by show 69 ≤ _; omega) (by show _ < 74; omega)) (by decide)) (by decide)) (fr_fde (mc := []) (mf := [15]) fr_rf e_511 (sM_0 t_507) (by decide)) (by decide)), (by omega)⟩⟩, ⟨by rw [ht]; exact hP, hD⟩⟩, hS.F ht⟩) hS.2.2 dX7_statement_219
                  · refine lv_iconst (v := 0) hx hb dX7_statement_206 (by decide) ?_
                    have : (gi (C_504 0) 7).toInt = (gi (C_494 0) 7).toInt := congrArg (fun z => (vi z).toInt) (f_506.2 7 (by decide))
                    have : (gi (C_504 0) 13).toInt = (gi (C_494 0) 13).toInt := congrArg (fun z => (vi z).toInt) (f_506.2 13 (by decide))
                    have : 0 ≤ (gi (C_504 0) 21).toInt ∧ (gi (C_504 0) 21).toInt ≤ 250 := fM_0_21 t_507
                    have : 0 ≤ (gi (C_504 0) 7).toInt ∧ (gi (C_504 0) 7).toInt ≤ 250 := fM_0_7 t_507
                    have : 0 ≤ (gi (C_504 0) 23).toInt ∧ (gi (C_504 0) 23).toInt ≤ 250 := fM_0_23 t_507
                    have : 0 ≤ (gi (C_504 0) 13).toInt ∧ (gi (C_504 0) 13).toInt ≤ 5 := fM_0_13 t_507
                    rw [hQ]
                    exact W.zret (v := 0) (ty := .boolean) hx hb hr (by decide) (fun t ht hW => ⟨⟨0, C_504, rfl, ⟨hT, hF, ⟨(Or.inl rfl), ⟨(by omega), hq_505.2.1.2⟩, (fun h9 => absurd rfl h9), (RelW.fr (RelW.fr hR (fr_trk (mc := [(69, 74)]) (mf := [21, 22, 23, 24, 25]) fr_rf f_496 (inR_of (p := (69, 74)) (by decide) (by show 69 ≤ _; omega) (by show _ < 74; omega)) (by decide)) (by decide)) (fr_trk (mc := [(69, 74)]) (mf := [21, 22, 23, 24, 25]) fr_rf f_506 (inR_of (p := (69, 74)) (by decide) (by show 69 ≤ _; omega) (by show _ < 74; omega)) (by decide)) (by decide)), (by omega)⟩⟩, ⟨by rw [ht]; exact hP, hD⟩⟩, hS.F ht⟩) hS.2.2 dX7_statement_207
          · have u_513 := hq_456.2 c_457
            refine lv_aload_n hx hb dX7_statement_73 rfl (lv_at hl 0 rfl) ?_
            refine va_get (D := D) (ci := 7) (v := .int (gi (C 0) 13)) (C := RX7) (T := TX7) (N := 29) hx hb htg ig_7 hown hK hP 0 (oh_wg (Nat.lt_of_lt_of_le (by decide) hn) (sM_0 hT)) rfl 13 (by decide) (htg _ q_986) (fun _ h9 => h9) rfl dX7_statement_74 ?_
            refine lv_iconst (v := 5) hx hb dX7_statement_77 (by decide) ?_
            refine lv_icmp_ge (tgt := 147) hx hb dX7_statement_78 (by decide) (fun (c_514 : (5 : Int32) ≤ (gi (C 0) 13)) => ?_) (fun (c_514 : ¬ ((5 : Int32) ≤ (gi (C 0) 13))) => ?_)
            · refine lv_aload_n hx hb dX7_statement_147 rfl (lv_at hl 0 rfl) ?_
              refine va_ldcS hx hb hown (hG.2.2.1 ("OneHeavyLoadModel", 214, "part", 34) (List.mem_of_getElem? (i := 31) rfl)) dX7_statement_148 ?_
              refine tq_V (As := [.ref (G (3 + 31))]) (rest := []) (ws := (oh_W n a C)) ⟨hx, hb, hml, hown, htg⟩ (c_X7_isWord l D E G a C n hn hT 31 (by decide)) (cwV 1 htg (oh_gV q_1215 q_1217 q_41 q_73 q_1218) rfl rfl rfl pdVX7_isWord ⟨Nat.le_of_ble_eq_true rfl, Nat.le_of_ble_eq_true rfl⟩) hK hP hG hS (va_recv hK hP (ci := 7) (q0 := 0) rfl (oh_wg (Nat.lt_of_lt_of_le (by decide) hn) (sM_0 hT))) rfl hl.1 rfl (Nat.le_of_ble_eq_true rfl) dX7_statement_150 ⟨Nat.le_of_ble_eq_true rfl, Nat.le_of_ble_eq_true rfl⟩ (fun r_515 hq_516 => ?_)
              refine lv_if_eq (tgt := 220) hx hb dX7_statement_153 (by decide) (fun (c_517 : r_515 = 0) => ?_) (fun (c_517 : ¬ (r_515 = 0)) => ?_)
              · refine lv_aload_n hx hb dX7_statement_220 rfl (lv_at hl 0 rfl) ?_
                refine va_ldcS hx hb hown (hG.2.2.1 ("OneHeavyLoadModel", 215, "load", 35) (List.mem_of_getElem? (i := 32) rfl)) dX7_statement_221 ?_
                refine tq_V (As := [.ref (G (3 + 32))]) (rest := []) (ws := (oh_W n a C)) ⟨hx, hb, hml, hown, htg⟩ (c_X7_isWord l D E G a C n hn hT 32 (by decide)) (cwV 1 htg (oh_gV q_1215 q_1217 q_41 q_73 q_1218) rfl rfl rfl pdVX7_isWord ⟨Nat.le_of_ble_eq_true rfl, Nat.le_of_ble_eq_true rfl⟩) hK hP hG hS (va_recv hK hP (ci := 7) (q0 := 0) rfl (oh_wg (Nat.lt_of_lt_of_le (by decide) hn) (sM_0 hT))) rfl hl.1 rfl (Nat.le_of_ble_eq_true rfl) dX7_statement_223 ⟨Nat.le_of_ble_eq_true rfl, Nat.le_of_ble_eq_true rfl⟩ (fun r_518 hq_519 => ?_)
                refine lv_if_eq (tgt := 245) hx hb dX7_statement_226 (by decide) (fun (c_520 : r_518 = 0) => ?_) (fun (c_520 : ¬ (r_518 = 0)) => ?_)
                · refine lv_aload_n hx hb dX7_statement_245 rfl (lv_at hl 0 rfl) ?_
                  refine va_ldcS hx hb hown (hG.2.2.1 ("OneHeavyLoadModel", 217, "mile", 36) (List.mem_of_getElem? (i := 33) rfl)) dX7_statement_246 ?_
                  refine lv_aload_n hx hb dX7_statement_248 rfl (lv_at hl 0 rfl) ?_
                  refine va_get (D := D) (ci := 7) (v := .ref (a 13)) (C := RX7) (T := TX7) (N := 29) hx hb htg ig_7 hown hK hP 0 (oh_wg (Nat.lt_of_lt_of_le (by decide) hn) (sM_0 hT)) rfl 17 (by decide) (htg _ q_990) (fun _ h9 => h9) rfl dX7_statement_249 ?_
                  refine lv_iconst (v := 1) hx hb dX7_statement_252 (by decide) ?_
                  refine lv_iconst (v := 0) hx hb dX7_statement_253 (by decide) ?_
                  refine lv_bipush (v := 99) hx hb dX7_statement_254 (by decide) ?_
                  have : 0 ≤ (gi (C 0) 21).toInt ∧ (gi (C 0) 21).toInt ≤ 250 := fM_0_21 hT0
                  have : 0 ≤ (gi (C 0) 7).toInt ∧ (gi (C 0) 7).toInt ≤ 250 := fM_0_7 hT0
                  have : 0 ≤ (gi (C 0) 23).toInt ∧ (gi (C 0) 23).toInt ≤ 250 := fM_0_23 hT0
                  have : 0 ≤ (gi (C 0) 13).toInt ∧ (gi (C 0) 13).toInt ≤ 5 := fM_0_13 hT0
                  have : (24 : Int32).toInt = 24 := rfl
                  have : (24 : Int32).toInt ≤ (gi (C 0) 9).toInt := Int32.le_iff_toInt_le.mp c_305
                  have : (16 : Int32).toInt = 16 := rfl
                  have : (16 : Int32).toInt ≤ (gi (C 0) 11).toInt := Int32.le_iff_toInt_le.mp c_454
                  have : (5 : Int32).toInt = 5 := rfl
                  have : (5 : Int32).toInt ≤ (gi (C 0) 13).toInt := Int32.le_iff_toInt_le.mp c_514
                  refine tm_V (As := [.ref (G (3 + 33)), .ref (a 13), .int 1, .int 0, .int 99]) (rest := []) ⟨hx, hb, hml, hown, htg⟩ (c_X7_told l D E G _ a C n hn hT 33 13 (1 : Int32) (0 : Int32) (99 : Int32) (by decide) ⟨(Nat.lt_of_lt_of_le (by decide) hn), (by decide), 3, fun C h => (sM_13 h), (rg_in (rg_c (v := 1) (lo := 1) (hi := 1) (by decide)) (by decide)), fun C v h h1 h2 => (h.up 13 (by decide) (tA_upd (tM_13 h) tA_any))⟩ (by omega)) (cwV 5 htg (oh_gV q_1234 q_1236 q_45 q_73 q_1237) rfl rfl rfl pdVX7_told ⟨Nat.le_of_ble_eq_true rfl, Nat.le_of_ble_eq_true rfl⟩) hK hP hD hG hS hA (va_recv hK hP (ci := 7) (q0 := 0) rfl (oh_wg (Nat.lt_of_lt_of_le (by decide) hn) (sM_0 hT))) rfl hl.1 rfl (Nat.le_of_ble_eq_true rfl) dX7_statement_256 ⟨Nat.le_of_ble_eq_true rfl, Nat.le_of_ble_eq_true rfl⟩ (fun r_521 C_522 H locs hq_523 hP hD hS => ?_)
                  obtain ⟨hT, f_524, hq_523⟩ := hq_523
                  have hF := fr_trk hF f_524 (by decide) (by decide)
                  refine W.widen (k := 0) (n := 0) (Nat.le_refl _) (Nat.le_refl _) ?_
                  have t_525 := hT
                  have : (gi (C_522 0) 7).toInt = (gi (C 0) 7).toInt := congrArg (fun z => (vi z).toInt) (f_524.2 7 (by decide))
                  have : (gi (C_522 0) 13).toInt = (gi (C 0) 13).toInt := congrArg (fun z => (vi z).toInt) (f_524.2 13 (by decide))
                  have : 0 ≤ (gi (C_522 0) 21).toInt ∧ (gi (C_522 0) 21).toInt ≤ 250 := fM_0_21 t_525
                  have : 0 ≤ (gi (C_522 0) 7).toInt ∧ (gi (C_522 0) 7).toInt ≤ 250 := fM_0_7 t_525
                  have : 0 ≤ (gi (C_522 0) 23).toInt ∧ (gi (C_522 0) 23).toInt ≤ 250 := fM_0_23 t_525
                  have : 0 ≤ (gi (C_522 0) 13).toInt ∧ (gi (C_522 0) 13).toInt ≤ 5 := fM_0_13 t_525
                  rw [hQ]
                  exact W.zret (v := r_521) (ty := .boolean) hx hb hr (oh_nb hq_523.1) (fun t ht hW => ⟨⟨r_521, C_522, rfl, ⟨hT, hF, ⟨hq_523.1, ⟨hq_523.2.1.1, hq_523.2.1.2⟩, (fun h9 => (hq_523.2.2.2.2 h9)), (RelW.fr hR (fr_trk (mc := [(13, 14)]) (mf := [21, 22, 23, 24, 25]) fr_rf f_524 (by decide) (by decide)) (by decide)), (by omega)⟩⟩, ⟨by rw [ht]; exact hP, hD⟩⟩, hS.F ht⟩) hS.2.2 dX7_statement_259
                · have u_526 := hq_519.2 c_520
                  refine lv_aload_n hx hb dX7_statement_229 rfl (lv_at hl 0 rfl) ?_
                  refine va_ldcS hx hb hown (hG.2.2.1 ("OneHeavyLoadModel", 215, "load", 35) (List.mem_of_getElem? (i := 32) rfl)) dX7_statement_230 ?_
                  refine lv_aload_n hx hb dX7_statement_232 rfl (lv_at hl 0 rfl) ?_
                  refine va_get (D := D) (ci := 7) (v := .ref (a 13)) (C := RX7) (T := TX7) (N := 29) hx hb htg ig_7 hown hK hP 0 (oh_wg (Nat.lt_of_lt_of_le (by decide) hn) (sM_0 hT)) rfl 17 (by decide) (htg _ q_990) (fun _ h9 => h9) rfl dX7_statement_233 ?_
                  refine lv_iconst (v := 0) hx hb dX7_statement_236 (by decide) ?_
                  refine lv_iconst (v := 0) hx hb dX7_statement_237 (by decide) ?_
                  refine lv_sipush (v := 900) hx hb dX7_statement_238 (by decide) ?_
                  have : 0 ≤ (gi (C 0) 21).toInt ∧ (gi (C 0) 21).toInt ≤ 250 := fM_0_21 hT0
                  have : 0 ≤ (gi (C 0) 7).toInt ∧ (gi (C 0) 7).toInt ≤ 250 := fM_0_7 hT0
                  have : 0 ≤ (gi (C 0) 23).toInt ∧ (gi (C 0) 23).toInt ≤ 250 := fM_0_23 hT0
                  have : 0 ≤ (gi (C 0) 13).toInt ∧ (gi (C 0) 13).toInt ≤ 5 := fM_0_13 hT0
                  have : (24 : Int32).toInt = 24 := rfl
                  have : (24 : Int32).toInt ≤ (gi (C 0) 9).toInt := Int32.le_iff_toInt_le.mp c_305
                  have : (16 : Int32).toInt = 16 := rfl
                  have : (16 : Int32).toInt ≤ (gi (C 0) 11).toInt := Int32.le_iff_toInt_le.mp c_454
                  have : (5 : Int32).toInt = 5 := rfl
                  have : (5 : Int32).toInt ≤ (gi (C 0) 13).toInt := Int32.le_iff_toInt_le.mp c_514
                  refine tm_V (As := [.ref (G (3 + 32)), .ref (a 13), .int 0, .int 0, .int 900]) (rest := []) ⟨hx, hb, hml, hown, htg⟩ (c_X7_told l D E G _ a C n hn hT 32 13 (0 : Int32) (0 : Int32) (900 : Int32) (by decide) ⟨(Nat.lt_of_lt_of_le (by decide) hn), (by decide), 3, fun C h => (sM_13 h), (rg_in (rg_c (v := 0) (lo := 0) (hi := 0) (by decide)) (by decide)), fun C v h h1 h2 => (h.up 13 (by decide) (tA_upd (tM_13 h) tA_any))⟩ (by omega)) (cwV 5 htg (oh_gV q_1234 q_1236 q_45 q_73 q_1237) rfl rfl rfl pdVX7_told ⟨Nat.le_of_ble_eq_true rfl, Nat.le_of_ble_eq_true rfl⟩) hK hP hD hG hS hA (va_recv hK hP (ci := 7) (q0 := 0) rfl (oh_wg (Nat.lt_of_lt_of_le (by decide) hn) (sM_0 hT))) rfl hl.1 rfl (Nat.le_of_ble_eq_true rfl) dX7_statement_241 ⟨Nat.le_of_ble_eq_true rfl, Nat.le_of_ble_eq_true rfl⟩ (fun r_527 C_528 H locs hq_529 hP hD hS => ?_)
                  obtain ⟨hT, f_530, hq_529⟩ := hq_529
                  have hF := fr_trk hF f_530 (by decide) (by decide)
                  refine W.widen (k := 0) (n := 0) (Nat.le_refl _) (Nat.le_refl _) ?_
                  have t_531 := hT
                  have : (gi (C_528 0) 7).toInt = (gi (C 0) 7).toInt := congrArg (fun z => (vi z).toInt) (f_530.2 7 (by decide))
                  have : (gi (C_528 0) 13).toInt = (gi (C 0) 13).toInt := congrArg (fun z => (vi z).toInt) (f_530.2 13 (by decide))
                  have : 0 ≤ (gi (C_528 0) 21).toInt ∧ (gi (C_528 0) 21).toInt ≤ 250 := fM_0_21 t_531
                  have : 0 ≤ (gi (C_528 0) 7).toInt ∧ (gi (C_528 0) 7).toInt ≤ 250 := fM_0_7 t_531
                  have : 0 ≤ (gi (C_528 0) 23).toInt ∧ (gi (C_528 0) 23).toInt ≤ 250 := fM_0_23 t_531
                  have : 0 ≤ (gi (C_528 0) 13).toInt ∧ (gi (C_528 0) 13).toInt ≤ 5 := fM_0_13 t_531
                  rw [hQ]
                  exact W.zret (v := r_527) (ty := .boolean) hx hb hr (oh_nb hq_529.1) (fun t ht hW => ⟨⟨r_527, C_528, rfl, ⟨hT, hF, ⟨hq_529.1, ⟨hq_529.2.1.1, hq_529.2.1.2⟩, (fun h9 => (hq_529.2.2.2.2 h9)), (RelW.fr hR (fr_trk (mc := [(13, 14)]) (mf := [21, 22, 23, 24, 25]) fr_rf f_530 (by decide) (by decide)) (by decide)), (by omega)⟩⟩, ⟨by rw [ht]; exact hP, hD⟩⟩, hS.F ht⟩) hS.2.2 dX7_statement_244
              · have u_532 := hq_516.2 c_517
                refine lv_aload_n hx hb dX7_statement_156 rfl (lv_at hl 0 rfl) ?_
                refine va_get (D := D) (ci := 7) (v := .int (gi (C 0) 15)) (C := RX7) (T := TX7) (N := 29) hx hb htg ig_7 hown hK hP 0 (oh_wg (Nat.lt_of_lt_of_le (by decide) hn) (sM_0 hT)) rfl 15 (by decide) (htg _ q_988) (fun _ h9 => h9) rfl dX7_statement_157 ?_
                refine lv_iconst (v := 5) hx hb dX7_statement_160 (by decide) ?_
                refine lv_icmp_ge (tgt := 220) hx hb dX7_statement_161 (by decide) (fun (c_533 : (5 : Int32) ≤ (gi (C 0) 15)) => ?_) (fun (c_533 : ¬ ((5 : Int32) ≤ (gi (C 0) 15))) => ?_)
                · refine lv_aload_n hx hb dX7_statement_220 rfl (lv_at hl 0 rfl) ?_
                  refine va_ldcS hx hb hown (hG.2.2.1 ("OneHeavyLoadModel", 215, "load", 35) (List.mem_of_getElem? (i := 32) rfl)) dX7_statement_221 ?_
                  refine tq_V (As := [.ref (G (3 + 32))]) (rest := []) (ws := (oh_W n a C)) ⟨hx, hb, hml, hown, htg⟩ (c_X7_isWord l D E G a C n hn hT 32 (by decide)) (cwV 1 htg (oh_gV q_1215 q_1217 q_41 q_73 q_1218) rfl rfl rfl pdVX7_isWord ⟨Nat.le_of_ble_eq_true rfl, Nat.le_of_ble_eq_true rfl⟩) hK hP hG hS (va_recv hK hP (ci := 7) (q0 := 0) rfl (oh_wg (Nat.lt_of_lt_of_le (by decide) hn) (sM_0 hT))) rfl hl.1 rfl (Nat.le_of_ble_eq_true rfl) dX7_statement_223 ⟨Nat.le_of_ble_eq_true rfl, Nat.le_of_ble_eq_true rfl⟩ (fun r_534 hq_535 => ?_)
                  refine lv_if_eq (tgt := 245) hx hb dX7_statement_226 (by decide) (fun (c_536 : r_534 = 0) => ?_) (fun (c_536 : ¬ (r_534 = 0)) => ?_)
                  · refine lv_aload_n hx hb dX7_statement_245 rfl (lv_at hl 0 rfl) ?_
                    refine va_ldcS hx hb hown (hG.2.2.1 ("OneHeavyLoadModel", 217, "mile", 36) (List.mem_of_getElem? (i := 33) rfl)) dX7_statement_246 ?_
                    refine lv_aload_n hx hb dX7_statement_248 rfl (lv_at hl 0 rfl) ?_
                    refine va_get (D := D) (ci := 7) (v := .ref (a 13)) (C := RX7) (T := TX7) (N := 29) hx hb htg ig_7 hown hK hP 0 (oh_wg (Nat.lt_of_lt_of_le (by decide) hn) (sM_0 hT)) rfl 17 (by decide) (htg _ q_990) (fun _ h9 => h9) rfl dX7_statement_249 ?_
                    refine lv_iconst (v := 1) hx hb dX7_statement_252 (by decide) ?_
                    refine lv_iconst (v := 0) hx hb dX7_statement_253 (by decide) ?_
                    refine lv_bipush (v := 99) hx hb dX7_statement_254 (by decide) ?_
                    have : 0 ≤ (gi (C 0) 21).toInt ∧ (gi (C 0) 21).toInt ≤ 250 := fM_0_21 hT0
                    have : 0 ≤ (gi (C 0) 7).toInt ∧ (gi (C 0) 7).toInt ≤ 250 := fM_0_7 hT0
                    have : 0 ≤ (gi (C 0) 23).toInt ∧ (gi (C 0) 23).toInt ≤ 250 := fM_0_23 hT0
                    have : 0 ≤ (gi (C 0) 13).toInt ∧ (gi (C 0) 13).toInt ≤ 5 := fM_0_13 hT0
                    have : (24 : Int32).toInt = 24 := rfl
                    have : (24 : Int32).toInt ≤ (gi (C 0) 9).toInt := Int32.le_iff_toInt_le.mp c_305
                    have : (16 : Int32).toInt = 16 := rfl
                    have : (16 : Int32).toInt ≤ (gi (C 0) 11).toInt := Int32.le_iff_toInt_le.mp c_454
                    have : (5 : Int32).toInt = 5 := rfl
                    have : (5 : Int32).toInt ≤ (gi (C 0) 13).toInt := Int32.le_iff_toInt_le.mp c_514
                    have : (5 : Int32).toInt ≤ (gi (C 0) 15).toInt := Int32.le_iff_toInt_le.mp c_533
                    refine tm_V (As := [.ref (G (3 + 33)), .ref (a 13), .int 1, .int 0, .int 99]) (rest := []) ⟨hx, hb, hml, hown, htg⟩ (c_X7_told l D E G _ a C n hn hT 33 13 (1 : Int32) (0 : Int32) (99 : Int32) (by decide) ⟨(Nat.lt_of_lt_of_le (by decide) hn), (by decide), 3, fun C h => (sM_13 h), (rg_in (rg_c (v := 1) (lo := 1) (hi := 1) (by decide)) (by decide)), fun C v h h1 h2 => (h.up 13 (by decide) (tA_upd (tM_13 h) tA_any))⟩ (by omega)) (cwV 5 htg (oh_gV q_1234 q_1236 q_45 q_73 q_1237) rfl rfl rfl pdVX7_told ⟨Nat.le_of_ble_eq_true rfl, Nat.le_of_ble_eq_true rfl⟩) hK hP hD hG hS hA (va_recv hK hP (ci := 7) (q0 := 0) rfl (oh_wg (Nat.lt_of_lt_of_le (by decide) hn) (sM_0 hT))) rfl hl.1 rfl (Nat.le_of_ble_eq_true rfl) dX7_statement_256 ⟨Nat.le_of_ble_eq_true rfl, Nat.le_of_ble_eq_true rfl⟩ (fun r_537 C_538 H locs hq_539 hP hD hS => ?_)
                    obtain ⟨hT, f_540, hq_539⟩ := hq_539
                    have hF := fr_trk hF f_540 (by decide) (by decide)
                    refine W.widen (k := 0) (n := 0) (Nat.le_refl _) (Nat.le_refl _) ?_
                    have t_541 := hT
                    have : (gi (C_538 0) 7).toInt = (gi (C 0) 7).toInt := congrArg (fun z => (vi z).toInt) (f_540.2 7 (by decide))
                    have : (gi (C_538 0) 13).toInt = (gi (C 0) 13).toInt := congrArg (fun z => (vi z).toInt) (f_540.2 13 (by decide))
                    have : 0 ≤ (gi (C_538 0) 21).toInt ∧ (gi (C_538 0) 21).toInt ≤ 250 := fM_0_21 t_541
                    have : 0 ≤ (gi (C_538 0) 7).toInt ∧ (gi (C_538 0) 7).toInt ≤ 250 := fM_0_7 t_541
                    have : 0 ≤ (gi (C_538 0) 23).toInt ∧ (gi (C_538 0) 23).toInt ≤ 250 := fM_0_23 t_541
                    have : 0 ≤ (gi (C_538 0) 13).toInt ∧ (gi (C_538 0) 13).toInt ≤ 5 := fM_0_13 t_541
                    rw [hQ]
                    exact W.zret (v := r_537) (ty := .boolean) hx hb hr (oh_nb hq_539.1) (fun t ht hW => ⟨⟨r_537, C_538, rfl, ⟨hT, hF, ⟨hq_539.1, ⟨hq_539.2.1.1, hq_539.2.1.2⟩, (fun h9 => (hq_539.2.2.2.2 h9)), (RelW.fr hR (fr_trk (mc := [(13, 14)]) (mf := [21, 22, 23, 24, 25]) fr_rf f_540 (by decide) (by decide)) (by decide)), (by omega)⟩⟩, ⟨by rw [ht]; exact hP, hD⟩⟩, hS.F ht⟩) hS.2.2 dX7_statement_259
                  · have u_542 := hq_535.2 c_536
                    refine lv_aload_n hx hb dX7_statement_229 rfl (lv_at hl 0 rfl) ?_
                    refine va_ldcS hx hb hown (hG.2.2.1 ("OneHeavyLoadModel", 215, "load", 35) (List.mem_of_getElem? (i := 32) rfl)) dX7_statement_230 ?_
                    refine lv_aload_n hx hb dX7_statement_232 rfl (lv_at hl 0 rfl) ?_
                    refine va_get (D := D) (ci := 7) (v := .ref (a 13)) (C := RX7) (T := TX7) (N := 29) hx hb htg ig_7 hown hK hP 0 (oh_wg (Nat.lt_of_lt_of_le (by decide) hn) (sM_0 hT)) rfl 17 (by decide) (htg _ q_990) (fun _ h9 => h9) rfl dX7_statement_233 ?_
                    refine lv_iconst (v := 0) hx hb dX7_statement_236 (by decide) ?_
                    refine lv_iconst (v := 0) hx hb dX7_statement_237 (by decide) ?_
                    refine lv_sipush (v := 900) hx hb dX7_statement_238 (by decide) ?_
                    have : 0 ≤ (gi (C 0) 21).toInt ∧ (gi (C 0) 21).toInt ≤ 250 := fM_0_21 hT0
                    have : 0 ≤ (gi (C 0) 7).toInt ∧ (gi (C 0) 7).toInt ≤ 250 := fM_0_7 hT0
                    have : 0 ≤ (gi (C 0) 23).toInt ∧ (gi (C 0) 23).toInt ≤ 250 := fM_0_23 hT0
                    have : 0 ≤ (gi (C 0) 13).toInt ∧ (gi (C 0) 13).toInt ≤ 5 := fM_0_13 hT0
                    have : (24 : Int32).toInt = 24 := rfl
                    have : (24 : Int32).toInt ≤ (gi (C 0) 9).toInt := Int32.le_iff_toInt_le.mp c_305
                    have : (16 : Int32).toInt = 16 := rfl
                    have : (16 : Int32).toInt ≤ (gi (C 0) 11).toInt := Int32.le_iff_toInt_le.mp c_454
                    have : (5 : Int32).toInt = 5 := rfl
                    have : (5 : Int32).toInt ≤ (gi (C 0) 13).toInt := Int32.le_iff_toInt_le.mp c_514
                    have : (5 : Int32).toInt ≤ (gi (C 0) 15).toInt := Int32.le_iff_toInt_le.mp c_533
                    refine tm_V (As := [.ref (G (3 + 32)), .ref (a 13), .int 0, .int 0, .int 900]) (rest := []) ⟨hx, hb, hml, hown, htg⟩ (c_X7_told l D E G _ a C n hn hT 32 13 (0 : Int32) (0 : Int32) (900 : Int32) (by decide) ⟨(Nat.lt_of_lt_of_le (by decide) hn), (by decide), 3, fun C h => (sM_13 h), (rg_in (rg_c (v := 0) (lo := 0) (hi := 0) (by decide)) (by decide)), fun C v h h1 h2 => (h.up 13 (by decide) (tA_upd (tM_13 h) tA_any))⟩ (by omega)) (cwV 5 htg (oh_gV q_1234 q_1236 q_45 q_73 q_1237) rfl rfl rfl pdVX7_told ⟨Nat.le_of_ble_eq_true rfl, Nat.le_of_ble_eq_true rfl⟩) hK hP hD hG hS hA (va_recv hK hP (ci := 7) (q0 := 0) rfl (oh_wg (Nat.lt_of_lt_of_le (by decide) hn) (sM_0 hT))) rfl hl.1 rfl (Nat.le_of_ble_eq_true rfl) dX7_statement_241 ⟨Nat.le_of_ble_eq_true rfl, Nat.le_of_ble_eq_true rfl⟩ (fun r_543 C_544 H locs hq_545 hP hD hS => ?_)
                    obtain ⟨hT, f_546, hq_545⟩ := hq_545
                    have hF := fr_trk hF f_546 (by decide) (by decide)
                    refine W.widen (k := 0) (n := 0) (Nat.le_refl _) (Nat.le_refl _) ?_
                    have t_547 := hT
                    have : (gi (C_544 0) 7).toInt = (gi (C 0) 7).toInt := congrArg (fun z => (vi z).toInt) (f_546.2 7 (by decide))
                    have : (gi (C_544 0) 13).toInt = (gi (C 0) 13).toInt := congrArg (fun z => (vi z).toInt) (f_546.2 13 (by decide))
                    have : 0 ≤ (gi (C_544 0) 21).toInt ∧ (gi (C_544 0) 21).toInt ≤ 250 := fM_0_21 t_547
                    have : 0 ≤ (gi (C_544 0) 7).toInt ∧ (gi (C_544 0) 7).toInt ≤ 250 := fM_0_7 t_547
                    have : 0 ≤ (gi (C_544 0) 23).toInt ∧ (gi (C_544 0) 23).toInt ≤ 250 := fM_0_23 t_547
                    have : 0 ≤ (gi (C_544 0) 13).toInt ∧ (gi (C_544 0) 13).toInt ≤ 5 := fM_0_13 t_547
                    rw [hQ]
                    exact W.zret (v := r_543) (ty := .boolean) hx hb hr (oh_nb hq_545.1) (fun t ht hW => ⟨⟨r_543, C_544, rfl, ⟨hT, hF, ⟨hq_545.1, ⟨hq_545.2.1.1, hq_545.2.1.2⟩, (fun h9 => (hq_545.2.2.2.2 h9)), (RelW.fr hR (fr_trk (mc := [(13, 14)]) (mf := [21, 22, 23, 24, 25]) fr_rf f_546 (by decide) (by decide)) (by decide)), (by omega)⟩⟩, ⟨by rw [ht]; exact hP, hD⟩⟩, hS.F ht⟩) hS.2.2 dX7_statement_244
                · refine lv_aload_n hx hb dX7_statement_164 rfl (lv_at hl 0 rfl) ?_
                  refine va_ldcS hx hb hown (hG.2.2.1 ("OneHeavyLoadModel", 214, "part", 34) (List.mem_of_getElem? (i := 31) rfl)) dX7_statement_165 ?_
                  refine lv_aload_n hx hb dX7_statement_167 rfl (lv_at hl 0 rfl) ?_
                  refine va_get (D := D) (ci := 7) (v := .ref (a 12)) (C := RX7) (T := TX7) (N := 29) hx hb htg ig_7 hown hK hP 0 (oh_wg (Nat.lt_of_lt_of_le (by decide) hn) (sM_0 hT)) rfl 16 (by decide) (htg _ q_989) (fun _ h9 => h9) rfl dX7_statement_168 ?_
                  refine lv_aload_n hx hb dX7_statement_171 rfl (lv_at hl 0 rfl) ?_
                  refine va_get (D := D) (ci := 7) (v := .int (gi (C 0) 15)) (C := RX7) (T := TX7) (N := 29) hx hb htg ig_7 hown hK hP 0 (oh_wg (Nat.lt_of_lt_of_le (by decide) hn) (sM_0 hT)) rfl 15 (by decide) (htg _ q_988) (fun _ h9 => h9) rfl dX7_statement_172 ?_
                  have n_548 : vp_in (gi (C 0) 15) 5 := (rg_in (rn_ltu (u' := 4) (Int32.not_le.mp c_533) (fM_0_15 hT0) (rg_c (v := 5) (lo := 5) (hi := 5) (by decide)) (by decide)) (by decide))
                  have b_549 : (gi (C 0) 15).toNatClampNeg < 5 := vp_lt n_548
                  refine th_aald hx hb hK hP 12 2 (Nat.lt_of_lt_of_le (by decide) hn) (sM_12 hT) rfl n_548 dX7_statement_175 ?_
                  refine lv_iconst (v := 0) hx hb dX7_statement_176 (by decide) ?_
                  refine lv_iconst (v := 1) hx hb dX7_statement_177 (by decide) ?_
                  refine lv_bipush (v := 99) hx hb dX7_statement_178 (by decide) ?_
                  have : 0 ≤ (gi (C 0) 21).toInt ∧ (gi (C 0) 21).toInt ≤ 250 := fM_0_21 hT0
                  have : 0 ≤ (gi (C 0) 7).toInt ∧ (gi (C 0) 7).toInt ≤ 250 := fM_0_7 hT0
                  have : 0 ≤ (gi (C 0) 23).toInt ∧ (gi (C 0) 23).toInt ≤ 250 := fM_0_23 hT0
                  have : 0 ≤ (gi (C 0) 13).toInt ∧ (gi (C 0) 13).toInt ≤ 5 := fM_0_13 hT0
                  have : (24 : Int32).toInt = 24 := rfl
                  have : (24 : Int32).toInt ≤ (gi (C 0) 9).toInt := Int32.le_iff_toInt_le.mp c_305
                  have : (16 : Int32).toInt = 16 := rfl
                  have : (16 : Int32).toInt ≤ (gi (C 0) 11).toInt := Int32.le_iff_toInt_le.mp c_454
                  have : (5 : Int32).toInt = 5 := rfl
                  have : (5 : Int32).toInt ≤ (gi (C 0) 13).toInt := Int32.le_iff_toInt_le.mp c_514
                  have : (gi (C 0) 15).toInt < (5 : Int32).toInt := Int32.lt_iff_toInt_lt.mp (Int32.not_le.mp c_533)
                  refine tm_V (As := [.ref (G (3 + 31)), .ref (a (69 + (gi (C 0) 15).toNatClampNeg)), .int 0, .int 1, .int 99]) (rest := []) ⟨hx, hb, hml, hown, htg⟩ (c_X7_told l D E G _ a C n hn hT 31 (69 + (gi (C 0) 15).toNatClampNeg) (0 : Int32) (1 : Int32) (99 : Int32) (by decide) ⟨(lt_blk b_549 hn (by decide)), (by omega), 2, fun C h => (h.bpart b_549).1, (rg_in (rg_c (v := 0) (lo := 0) (hi := 0) (by decide)) (by decide)), fun C v h h1 h2 => (h.uppart b_549 (tA_upd (h.bpart b_549) tA_any))⟩ (by omega)) (cwV 5 htg (oh_gV q_1234 q_1236 q_45 q_73 q_1237) rfl rfl rfl pdVX7_told ⟨Nat.le_of_ble_eq_true rfl, Nat.le_of_ble_eq_true rfl⟩) hK hP hD hG hS hA (va_recv hK hP (ci := 7) (q0 := 0) rfl (oh_wg (Nat.lt_of_lt_of_le (by decide) hn) (sM_0 hT))) rfl hl.1 rfl (Nat.le_of_ble_eq_true rfl) dX7_statement_180 ⟨Nat.le_of_ble_eq_true rfl, Nat.le_of_ble_eq_true rfl⟩ (fun r_550 C_551 H locs hq_552 hP hD hS => ?_)
                  obtain ⟨hT, f_553, hq_552⟩ := hq_552
                  have hF := fr_trk hF f_553 (inR_of (p := (69, 74)) (by decide) (by show 69 ≤ _; omega) (by show _ < 74; omega)) (by decide)
                  refine W.widen (k := 0) (n := 0) (Nat.le_refl _) (Nat.le_refl _) ?_
                  have t_554 := hT
                  refine lv_if_eq (tgt := 206) hx hb dX7_statement_183 (by decide) (fun (c_555 : r_550 = 0) => ?_) (fun (c_555 : ¬ (r_550 = 0)) => ?_)
                  · refine lv_iconst (v := 0) hx hb dX7_statement_206 (by decide) ?_
                    have : (gi (C_551 0) 7).toInt = (gi (C 0) 7).toInt := congrArg (fun z => (vi z).toInt) (f_553.2 7 (by decide))
                    have : (gi (C_551 0) 13).toInt = (gi (C 0) 13).toInt := congrArg (fun z => (vi z).toInt) (f_553.2 13 (by decide))
                    have : 0 ≤ (gi (C_551 0) 21).toInt ∧ (gi (C_551 0) 21).toInt ≤ 250 := fM_0_21 t_554
                    have : 0 ≤ (gi (C_551 0) 7).toInt ∧ (gi (C_551 0) 7).toInt ≤ 250 := fM_0_7 t_554
                    have : 0 ≤ (gi (C_551 0) 23).toInt ∧ (gi (C_551 0) 23).toInt ≤ 250 := fM_0_23 t_554
                    have : 0 ≤ (gi (C_551 0) 13).toInt ∧ (gi (C_551 0) 13).toInt ≤ 5 := fM_0_13 t_554
                    rw [hQ]
                    exact W.zret (v := 0) (ty := .boolean) hx hb hr (by decide) (fun t ht hW => ⟨⟨0, C_551, rfl, ⟨hT, hF, ⟨(Or.inl rfl), ⟨hq_552.2.1.1, hq_552.2.1.2⟩, (fun h9 => absurd rfl h9), (RelW.fr hR (fr_trk (mc := [(69, 74)]) (mf := [21, 22, 23, 24, 25]) fr_rf f_553 (inR_of (p := (69, 74)) (by decide) (by show 69 ≤ _; omega) (by show _ < 74; omega)) (by decide)) (by decide)), (by omega)⟩⟩, ⟨by rw [ht]; exact hP, hD⟩⟩, hS.F ht⟩) hS.2.2 dX7_statement_207
                  · have u_556 := hq_552.2.2.2.1 c_555
                    have u_557 := hq_552.2.2.2.2 c_555
                    refine lv_aload_n hx hb dX7_statement_186 rfl (lv_at hl 0 rfl) ?_
                    refine lv_aload_n hx hb dX7_statement_187 rfl (lv_at hl 0 rfl) ?_
                    refine va_get (D := D) (ci := 7) (v := .ref (a 12)) (C := RX7) (T := TX7) (N := 29) hx hb htg ig_7 hown hK hP 0 (oh_wg (Nat.lt_of_lt_of_le (by decide) hn) (sM_0 hT)) rfl 16 (by decide) (htg _ q_989) (fun _ h9 => h9) rfl dX7_statement_188 ?_
                    refine lv_aload_n hx hb dX7_statement_191 rfl (lv_at hl 0 rfl) ?_
                    refine va_get (D := D) (ci := 7) (v := .int (gi (C 0) 15)) (C := RX7) (T := TX7) (N := 29) hx hb htg ig_7 hown hK hP 0 (oh_wg (Nat.lt_of_lt_of_le (by decide) hn) (sM_0 hT)) rfl 15 (by decide) (htg _ q_988) (fun _ h9 => h9) (oh_fv (c := C_551 0) (j := 15) rfl (congrArg vi (f_553.2 15 (by decide)))) dX7_statement_192 ?_
                    have n_558 : vp_in (gi (C 0) 15) 5 := (rg_in (rn_ltu (u' := 4) (Int32.not_le.mp c_533) (fM_0_15 hT0) (rg_c (v := 5) (lo := 5) (hi := 5) (by decide)) (by decide)) (by decide))
                    have b_559 : (gi (C 0) 15).toNatClampNeg < 5 := vp_lt n_558
                    refine th_aald hx hb hK hP 12 2 (Nat.lt_of_lt_of_le (by decide) hn) (sM_12 hT) rfl n_558 dX7_statement_195 ?_
                    refine lv_iconst (v := 1) hx hb dX7_statement_196 (by decide) ?_
                    refine lv_iconst (v := 0) hx hb dX7_statement_197 (by decide) ?_
                    refine lv_bipush (v := 99) hx hb dX7_statement_198 (by decide) ?_
                    have : (gi (C_551 0) 7).toInt = (gi (C 0) 7).toInt := congrArg (fun z => (vi z).toInt) (f_553.2 7 (by decide))
                    have : (gi (C_551 0) 13).toInt = (gi (C 0) 13).toInt := congrArg (fun z => (vi z).toInt) (f_553.2 13 (by decide))
                    have : 0 ≤ (gi (C_551 0) 21).toInt ∧ (gi (C_551 0) 21).toInt ≤ 250 := fM_0_21 t_554
                    have : 0 ≤ (gi (C_551 0) 7).toInt ∧ (gi (C_551 0) 7).toInt ≤ 250 := fM_0_7 t_554
                    have : 0 ≤ (gi (C_551 0) 23).toInt ∧ (gi (C_551 0) 23).toInt ≤ 250 := fM_0_23 t_554
                    have : 0 ≤ (gi (C_551 0) 13).toInt ∧ (gi (C_551 0) 13).toInt ≤ 5 := fM_0_13 t_554
                    refine tm_V (As := [.ref (a (69 + (gi (C 0) 15).toNatClampNeg)), .int 1, .int 0, .int 99]) (rest := []) ⟨hx, hb, hml, hown, htg⟩ (c_X7_number l D E G _ a C_551 n hn hT (69 + (gi (C 0) 15).toNatClampNeg) (1 : Int32) (0 : Int32) (99 : Int32) ⟨(lt_blk b_559 hn (by decide)), (by omega), 2, fun C h => (h.bpart b_559).1, (rg_in (rg_c (v := 1) (lo := 1) (hi := 1) (by decide)) (by decide)), fun C v h h1 h2 => (h.uppart b_559 (tA_upd (h.bpart b_559) tA_any))⟩ (by omega)) (cwV 4 htg (oh_gV q_1225 q_1227 q_43 q_73 q_1228) rfl rfl rfl pdVX7_number ⟨Nat.le_of_ble_eq_true rfl, Nat.le_of_ble_eq_true rfl⟩) hK hP hD hG hS hA (va_recv hK hP (ci := 7) (q0 := 0) rfl (oh_wg (Nat.lt_of_lt_of_le (by decide) hn) (sM_0 hT))) rfl hl.1 rfl (Nat.le_of_ble_eq_true rfl) dX7_statement_200 ⟨Nat.le_of_ble_eq_true rfl, Nat.le_of_ble_eq_true rfl⟩ (fun r_560 C_561 H locs hq_562 hP hD hS => ?_)
                    obtain ⟨hT, f_563, hq_562⟩ := hq_562
                    have hF := fr_trk hF f_563 (inR_of (p := (69, 74)) (by decide) (by show 69 ≤ _; omega) (by show _ < 74; omega)) (by decide)
                    refine W.widen (k := 0) (n := 0) (Nat.le_refl _) (Nat.le_refl _) ?_
                    have t_564 := hT
                    refine lv_if_ne (tgt := 208) hx hb dX7_statement_203 (by decide) (fun (c_565 : ¬ (r_560 = 0)) => ?_) (fun (c_565 : r_560 = 0) => ?_)
                    · have u_566 := hq_562.2.2.2 c_565
                      refine lv_aload_n hx hb dX7_statement_208 rfl (lv_at hl 0 rfl) ?_
                      refine lv_dup hx hb dX7_statement_209 rfl ?_
                      refine va_get (D := D) (ci := 7) (v := .int (gi (C 0) 15)) (C := RX7) (T := TX7) (N := 29) hx hb htg ig_7 hown hK hP 0 (oh_wg (Nat.lt_of_lt_of_le (by decide) hn) (sM_0 hT)) rfl 15 (by decide) (htg _ q_988) (fun _ h9 => h9) (oh_fv (c := C_561 0) (j := 15) rfl (Eq.trans (congrArg vi (f_563.2 15 (by decide))) (congrArg vi (f_553.2 15 (by decide))))) dX7_statement_210 ?_
                      refine lv_iconst (v := 1) hx hb dX7_statement_213 (by decide) ?_
                      refine lv_iadd hx hb dX7_statement_214 ?_
                      refine th_put (Tp := TyM a E) (Rl := fr [(13, 14), (24, 48), (48, 64), (64, 69), (69, 74)] [9, 11, 13, 15, 21, 22, 23, 24, 25] C) (ci := 7) (v := .int ((gi (C 0) 15) + 1)) (ty := .int) (CC := RX7) (T := TX7) (N := 29) hx hb htg ig_7 tyX7 tyX7_ok nmX7 hown hK hP hD hS 0 (Nat.lt_of_lt_of_le (by decide) hn) (sM_0 hT) rfl 15 (by decide) (htg _ q_988) (fun _ h9 => h9) rfl (by decide +kernel) rfl rfl (Nat.le_of_ble_eq_true rfl) (hT.up 0 (by decide) ⟨rfl, (fM_0_7 hT), (fM_0_9 hT), (fM_0_11 hT), (fM_0_13 hT), (rg_w (rg_add (lo := 1) (hi := 5) (rn_ltu (u' := 4) (Int32.not_le.mp c_533) (fM_0_15 hT0) (rg_c (v := 5) (lo := 5) (hi := 5) (by decide)) (by decide)) (rg_c (v := 1) (lo := 1) (hi := 1) (by decide)) (by decide)) (by decide)), (fM_0_21 hT), (fM_0_23 hT)⟩) (fr_fd hF (sM_0 hT) (by decide)) dX7_statement_215 (fun C_567 H locs e_568 hT hF hP hD hS => ?_)
                      have t_569 := hT
                      refine lv_iconst (v := 1) hx hb dX7_statement_218 (by decide) ?_
                      have : (gi (C_561 0) 7).toInt = (gi (C_551 0) 7).toInt := congrArg (fun z => (vi z).toInt) (f_563.2 7 (by decide))
                      have : (gi (C_561 0) 13).toInt = (gi (C_551 0) 13).toInt := congrArg (fun z => (vi z).toInt) (f_563.2 13 (by decide))
                      have : (gi (C_567 0) 21).toInt = (gi (C_561 0) 21).toInt := congrArg Int32.toInt (show gi (C_567 0) 21 = gi (C_561 0) 21 by rw [e_568]; rfl)
                      have : (gi (C_567 0) 7).toInt = (gi (C_561 0) 7).toInt := congrArg Int32.toInt (show gi (C_567 0) 7 = gi (C_561 0) 7 by rw [e_568]; rfl)
                      have : (gi (C_567 0) 23).toInt = (gi (C_561 0) 23).toInt := congrArg Int32.toInt (show gi (C_567 0) 23 = gi (C_561 0) 23 by rw [e_568]; rfl)
                      have : (gi (C_567 0) 13).toInt = (gi (C_561 0) 13).toInt := congrArg Int32.toInt (show gi (C_567 0) 13 = gi (C_561 0) 13 by rw [e_568]; rfl)
                      have : 0 ≤ (gi (C_561 0) 21).toInt ∧ (gi (C_561 0) 21).toInt ≤ 250 := fM_0_21 t_564
                      have : 0 ≤ (gi (C_561 0) 7).toInt ∧ (gi (C_561 0) 7).toInt ≤ 250 := fM_0_7 t_564
                      have : 0 ≤ (gi (C_561 0) 23).toInt ∧ (gi (C_561 0) 23).toInt ≤ 250 := fM_0_23 t_564
                      have : 0 ≤ (gi (C_561 0) 13).toInt ∧ (gi (C_561 0) 13).toInt ≤ 5 := fM_0_13 t_564
                      have : 0 ≤ (gi (C_567 0) 21).toInt ∧ (gi (C_567 0) 21).toInt ≤ 250 := fM_0_21 t_569
                      have : 0 ≤ (gi (C_567 0) 7).toInt ∧ (gi (C_567 0) 7).toInt ≤ 250 := fM_0_7 t_569
                      have : 0 ≤ (gi (C_567 0) 23).toInt ∧ (gi (C_567 0) 23).toInt ≤ 250 := fM_0_23 t_569
                      have : 0 ≤ (gi (C_567 0) 13).toInt ∧ (gi (C_567 0) 13).toInt ≤ 5 := fM_0_13 t_569
                      rw [hQ]
                      exact W.zret (v := 1) (ty := .boolean) hx hb hr (by decide) (fun t ht hW => ⟨⟨1, C_567, rfl, ⟨hT, hF, ⟨(Or.inr rfl), ⟨(by omega), (by omega)⟩, (fun _ => (by omega)), (RelW.fr (RelW.fr (RelW.fr hR (fr_trk (mc := [(69, 74)]) (mf := [21, 22, 23, 24, 25]) fr_rf f_553 (inR_of (p := (69, 74)) (by decide) (by show 69 ≤ _; omega) (by show _ < 74; omega)) (by decide)) (by decide)) (fr_trk (mc := [(69, 74)]) (mf := [21, 22, 23, 24, 25]) fr_rf f_563 (inR_of (p := (69, 74)) (by decide) (by show 69 ≤ _; omega) (by show _ < 74; omega)) (by decide)) (by decide)) (fr_fde (mc := []) (mf := [15]) fr_rf e_568 (sM_0 t_564) (by decide)) (by decide)), (by omega)⟩⟩, ⟨by rw [ht]; exact hP, hD⟩⟩, hS.F ht⟩) hS.2.2 dX7_statement_219
                    · refine lv_iconst (v := 0) hx hb dX7_statement_206 (by decide) ?_
                      have : (gi (C_561 0) 7).toInt = (gi (C_551 0) 7).toInt := congrArg (fun z => (vi z).toInt) (f_563.2 7 (by decide))
                      have : (gi (C_561 0) 13).toInt = (gi (C_551 0) 13).toInt := congrArg (fun z => (vi z).toInt) (f_563.2 13 (by decide))
                      have : 0 ≤ (gi (C_561 0) 21).toInt ∧ (gi (C_561 0) 21).toInt ≤ 250 := fM_0_21 t_564
                      have : 0 ≤ (gi (C_561 0) 7).toInt ∧ (gi (C_561 0) 7).toInt ≤ 250 := fM_0_7 t_564
                      have : 0 ≤ (gi (C_561 0) 23).toInt ∧ (gi (C_561 0) 23).toInt ≤ 250 := fM_0_23 t_564
                      have : 0 ≤ (gi (C_561 0) 13).toInt ∧ (gi (C_561 0) 13).toInt ≤ 5 := fM_0_13 t_564
                      rw [hQ]
                      exact W.zret (v := 0) (ty := .boolean) hx hb hr (by decide) (fun t ht hW => ⟨⟨0, C_561, rfl, ⟨hT, hF, ⟨(Or.inl rfl), ⟨(by omega), hq_562.2.1.2⟩, (fun h9 => absurd rfl h9), (RelW.fr (RelW.fr hR (fr_trk (mc := [(69, 74)]) (mf := [21, 22, 23, 24, 25]) fr_rf f_553 (inR_of (p := (69, 74)) (by decide) (by show 69 ≤ _; omega) (by show _ < 74; omega)) (by decide)) (by decide)) (fr_trk (mc := [(69, 74)]) (mf := [21, 22, 23, 24, 25]) fr_rf f_563 (inR_of (p := (69, 74)) (by decide) (by show 69 ≤ _; omega) (by show _ < 74; omega)) (by decide)) (by decide)), (by omega)⟩⟩, ⟨by rw [ht]; exact hP, hD⟩⟩, hS.F ht⟩) hS.2.2 dX7_statement_207
            · refine lv_aload_n hx hb dX7_statement_81 rfl (lv_at hl 0 rfl) ?_
              refine va_get (D := D) (ci := 7) (v := .ref (a 11)) (C := RX7) (T := TX7) (N := 29) hx hb htg ig_7 hown hK hP 0 (oh_wg (Nat.lt_of_lt_of_le (by decide) hn) (sM_0 hT)) rfl 14 (by decide) (htg _ q_987) (fun _ h9 => h9) rfl dX7_statement_82 ?_
              refine lv_aload_n hx hb dX7_statement_85 rfl (lv_at hl 0 rfl) ?_
              refine va_get (D := D) (ci := 7) (v := .int (gi (C 0) 13)) (C := RX7) (T := TX7) (N := 29) hx hb htg ig_7 hown hK hP 0 (oh_wg (Nat.lt_of_lt_of_le (by decide) hn) (sM_0 hT)) rfl 13 (by decide) (htg _ q_986) (fun _ h9 => h9) rfl dX7_statement_86 ?_
              have n_570 : vp_in (gi (C 0) 13) 5 := (rg_in (rn_ltu (u' := 4) (Int32.not_le.mp c_514) (fM_0_13 hT0) (rg_c (v := 5) (lo := 5) (hi := 5) (by decide)) (by decide)) (by decide))
              have b_571 : (gi (C 0) 13).toNatClampNeg < 5 := vp_lt n_570
              refine th_aald hx hb hK hP 11 2 (Nat.lt_of_lt_of_le (by decide) hn) (sM_11 hT) rfl n_570 dX7_statement_89 ?_
              refine lv_astore_n (lv' := [(1, .ref (a (64 + (gi (C 0) 13).toNatClampNeg))), (0, .ref (a 0))]) hx hb dX7_statement_90 rfl hl (by decide) rfl (fun ls hl => ?_)
              refine lv_aload_n hx hb dX7_statement_91 rfl (lv_at hl 1 rfl) ?_
              refine va_ldcS hx hb hown (hG.2.2.1 ("OneHeavyLoadModel", 209, "waggon", 31) (List.mem_of_getElem? (i := 28) rfl)) dX7_statement_92 ?_
              refine lv_aload_n hx hb dX7_statement_94 rfl (lv_at hl 0 rfl) ?_
              refine lv_iconst (v := 0) hx hb dX7_statement_95 (by decide) ?_
              refine lv_iconst (v := 2) hx hb dX7_statement_96 (by decide) ?_
              refine lv_bipush (v := 12) hx hb dX7_statement_97 (by decide) ?_
              have : 0 ≤ (gi (C 0) 21).toInt ∧ (gi (C 0) 21).toInt ≤ 250 := fM_0_21 hT0
              have : 0 ≤ (gi (C 0) 7).toInt ∧ (gi (C 0) 7).toInt ≤ 250 := fM_0_7 hT0
              have : 0 ≤ (gi (C 0) 23).toInt ∧ (gi (C 0) 23).toInt ≤ 250 := fM_0_23 hT0
              have : 0 ≤ (gi (C 0) 13).toInt ∧ (gi (C 0) 13).toInt ≤ 5 := fM_0_13 hT0
              have : (24 : Int32).toInt = 24 := rfl
              have : (24 : Int32).toInt ≤ (gi (C 0) 9).toInt := Int32.le_iff_toInt_le.mp c_305
              have : (16 : Int32).toInt = 16 := rfl
              have : (16 : Int32).toInt ≤ (gi (C 0) 11).toInt := Int32.le_iff_toInt_le.mp c_454
              have : (5 : Int32).toInt = 5 := rfl
              have : (gi (C 0) 13).toInt < (5 : Int32).toInt := Int32.lt_iff_toInt_lt.mp (Int32.not_le.mp c_514)
              refine tm_V (As := [.ref (G (3 + 28)), .ref (a (64 + (gi (C 0) 13).toNatClampNeg)), .int 0, .int 2, .int 12]) (rest := []) ⟨hx, hb, hml, hown, htg⟩ (c_X7_told l D E G _ a C n hn hT 28 (64 + (gi (C 0) 13).toNatClampNeg) (0 : Int32) (2 : Int32) (12 : Int32) (by decide) ⟨(lt_blk b_571 hn (by decide)), (by omega), 3, fun C h => (h.bwaggon b_571).1, (rg_in (rg_c (v := 0) (lo := 0) (hi := 0) (by decide)) (by decide)), fun C v h h1 h2 => (h.upwaggon b_571 (tA_upd (h.bwaggon b_571) (tA_stc (k := 0) (by decide) (oh_rgle (lo := 0) (hi := 12) h1 h2 (by decide)) (by decide))))⟩ (by omega)) (cwV 5 htg (oh_gV q_1234 q_1236 q_45 q_73 q_1237) rfl rfl rfl pdVX7_told ⟨Nat.le_of_ble_eq_true rfl, Nat.le_of_ble_eq_true rfl⟩) hK hP hD hG hS hA (va_recv hK hP (ci := 7) (q0 := 0) rfl (oh_wg (Nat.lt_of_lt_of_le (by decide) hn) (sM_0 hT))) rfl hl.1 rfl (Nat.le_of_ble_eq_true rfl) dX7_statement_99 ⟨Nat.le_of_ble_eq_true rfl, Nat.le_of_ble_eq_true rfl⟩ (fun r_572 C_573 H locs hq_574 hP hD hS => ?_)
              obtain ⟨hT, f_575, hq_574⟩ := hq_574
              have hF := fr_trk hF f_575 (inR_of (p := (64, 69)) (by decide) (by show 64 ≤ _; omega) (by show _ < 69; omega)) (by decide)
              refine W.widen (k := 0) (n := 0) (Nat.le_refl _) (Nat.le_refl _) ?_
              have t_576 := hT
              refine lv_if_eq (tgt := 133) hx hb dX7_statement_102 (by decide) (fun (c_577 : r_572 = 0) => ?_) (fun (c_577 : ¬ (r_572 = 0)) => ?_)
              · refine lv_iconst (v := 0) hx hb dX7_statement_133 (by decide) ?_
                have : (gi (C_573 0) 7).toInt = (gi (C 0) 7).toInt := congrArg (fun z => (vi z).toInt) (f_575.2 7 (by decide))
                have : (gi (C_573 0) 13).toInt = (gi (C 0) 13).toInt := congrArg (fun z => (vi z).toInt) (f_575.2 13 (by decide))
                have : 0 ≤ (gi (C_573 0) 21).toInt ∧ (gi (C_573 0) 21).toInt ≤ 250 := fM_0_21 t_576
                have : 0 ≤ (gi (C_573 0) 7).toInt ∧ (gi (C_573 0) 7).toInt ≤ 250 := fM_0_7 t_576
                have : 0 ≤ (gi (C_573 0) 23).toInt ∧ (gi (C_573 0) 23).toInt ≤ 250 := fM_0_23 t_576
                have : 0 ≤ (gi (C_573 0) 13).toInt ∧ (gi (C_573 0) 13).toInt ≤ 5 := fM_0_13 t_576
                rw [hQ]
                exact W.zret (v := 0) (ty := .boolean) hx hb hr (by decide) (fun t ht hW => ⟨⟨0, C_573, rfl, ⟨hT, hF, ⟨(Or.inl rfl), ⟨hq_574.2.1.1, hq_574.2.1.2⟩, (fun h9 => absurd rfl h9), (relW_row (w := (gi (C 0) 13).toNatClampNeg) hR f_575 (oh_nat (fM_0_13 hT0) (by decide)) (by decide)), (by omega)⟩⟩, ⟨by rw [ht]; exact hP, hD⟩⟩, hS.F ht⟩) hS.2.2 dX7_statement_134
              · have u_578 := hq_574.2.2.2.1 c_577
                have u_579 := hq_574.2.2.2.2 c_577
                refine lv_aload_n hx hb dX7_statement_105 rfl (lv_at hl 1 rfl) ?_
                refine va_ldcS hx hb hown (hG.2.2.1 ("OneHeavyLoadModel", 210, "space", 32) (List.mem_of_getElem? (i := 29) rfl)) dX7_statement_106 ?_
                refine lv_aload_n hx hb dX7_statement_108 rfl (lv_at hl 0 rfl) ?_
                refine lv_iconst (v := 1) hx hb dX7_statement_109 (by decide) ?_
                refine lv_iconst (v := 1) hx hb dX7_statement_110 (by decide) ?_
                refine lv_bipush (v := 9) hx hb dX7_statement_111 (by decide) ?_
                have : (gi (C_573 0) 7).toInt = (gi (C 0) 7).toInt := congrArg (fun z => (vi z).toInt) (f_575.2 7 (by decide))
                have : (gi (C_573 0) 13).toInt = (gi (C 0) 13).toInt := congrArg (fun z => (vi z).toInt) (f_575.2 13 (by decide))
                have : 0 ≤ (gi (C_573 0) 21).toInt ∧ (gi (C_573 0) 21).toInt ≤ 250 := fM_0_21 t_576
                have : 0 ≤ (gi (C_573 0) 7).toInt ∧ (gi (C_573 0) 7).toInt ≤ 250 := fM_0_7 t_576
                have : 0 ≤ (gi (C_573 0) 23).toInt ∧ (gi (C_573 0) 23).toInt ≤ 250 := fM_0_23 t_576
                have : 0 ≤ (gi (C_573 0) 13).toInt ∧ (gi (C_573 0) 13).toInt ≤ 5 := fM_0_13 t_576
                refine tm_V (As := [.ref (G (3 + 29)), .ref (a (64 + (gi (C 0) 13).toNatClampNeg)), .int 1, .int 1, .int 9]) (rest := []) ⟨hx, hb, hml, hown, htg⟩ (c_X7_told l D E G _ a C_573 n hn hT 29 (64 + (gi (C 0) 13).toNatClampNeg) (1 : Int32) (1 : Int32) (9 : Int32) (by decide) ⟨(lt_blk b_571 hn (by decide)), (by omega), 3, fun C h => (h.bwaggon b_571).1, (rg_in (rg_c (v := 1) (lo := 1) (hi := 1) (by decide)) (by decide)), fun C v h h1 h2 => (h.upwaggon b_571 (tA_upd (h.bwaggon b_571) (tA_stc (k := 1) (by decide) (oh_rgle (lo := 0) (hi := 9) h1 h2 (by decide)) (by decide))))⟩ (by omega)) (cwV 5 htg (oh_gV q_1234 q_1236 q_45 q_73 q_1237) rfl rfl rfl pdVX7_told ⟨Nat.le_of_ble_eq_true rfl, Nat.le_of_ble_eq_true rfl⟩) hK hP hD hG hS hA (va_recv hK hP (ci := 7) (q0 := 0) rfl (oh_wg (Nat.lt_of_lt_of_le (by decide) hn) (sM_0 hT))) rfl hl.1 rfl (Nat.le_of_ble_eq_true rfl) dX7_statement_113 ⟨Nat.le_of_ble_eq_true rfl, Nat.le_of_ble_eq_true rfl⟩ (fun r_580 C_581 H locs hq_582 hP hD hS => ?_)
                obtain ⟨hT, f_583, hq_582⟩ := hq_582
                have hF := fr_trk hF f_583 (inR_of (p := (64, 69)) (by decide) (by show 64 ≤ _; omega) (by show _ < 69; omega)) (by decide)
                refine W.widen (k := 0) (n := 0) (Nat.le_refl _) (Nat.le_refl _) ?_
                have t_584 := hT
                refine lv_if_eq (tgt := 133) hx hb dX7_statement_116 (by decide) (fun (c_585 : r_580 = 0) => ?_) (fun (c_585 : ¬ (r_580 = 0)) => ?_)
                · refine lv_iconst (v := 0) hx hb dX7_statement_133 (by decide) ?_
                  have : (gi (C_581 0) 7).toInt = (gi (C_573 0) 7).toInt := congrArg (fun z => (vi z).toInt) (f_583.2 7 (by decide))
                  have : (gi (C_581 0) 13).toInt = (gi (C_573 0) 13).toInt := congrArg (fun z => (vi z).toInt) (f_583.2 13 (by decide))
                  have : 0 ≤ (gi (C_581 0) 21).toInt ∧ (gi (C_581 0) 21).toInt ≤ 250 := fM_0_21 t_584
                  have : 0 ≤ (gi (C_581 0) 7).toInt ∧ (gi (C_581 0) 7).toInt ≤ 250 := fM_0_7 t_584
                  have : 0 ≤ (gi (C_581 0) 23).toInt ∧ (gi (C_581 0) 23).toInt ≤ 250 := fM_0_23 t_584
                  have : 0 ≤ (gi (C_581 0) 13).toInt ∧ (gi (C_581 0) 13).toInt ≤ 5 := fM_0_13 t_584
                  rw [hQ]
                  exact W.zret (v := 0) (ty := .boolean) hx hb hr (by decide) (fun t ht hW => ⟨⟨0, C_581, rfl, ⟨hT, hF, ⟨(Or.inl rfl), ⟨(by omega), hq_582.2.1.2⟩, (fun h9 => absurd rfl h9), (relW_row (w := (gi (C 0) 13).toNatClampNeg) (relW_row (w := (gi (C 0) 13).toNatClampNeg) hR f_575 (oh_nat (fM_0_13 hT0) (by decide)) (by decide)) f_583 (by rw [(show gi (C_573 0) 13 = gi (C 0) 13 from congrArg vi (f_575.2 13 (by decide)))]; exact oh_nat (fM_0_13 hT0) (by decide)) (by decide)), (by omega)⟩⟩, ⟨by rw [ht]; exact hP, hD⟩⟩, hS.F ht⟩) hS.2.2 dX7_statement_134
                · have u_586 := hq_582.2.2.2.1 c_585
                  have u_587 := hq_582.2.2.2.2 c_585
                  refine lv_aload_n hx hb dX7_statement_119 rfl (lv_at hl 1 rfl) ?_
                  refine va_ldcS hx hb hown (hG.2.2.1 ("OneHeavyLoadModel", 212, "tare", 33) (List.mem_of_getElem? (i := 30) rfl)) dX7_statement_120 ?_
                  refine lv_aload_n hx hb dX7_statement_122 rfl (lv_at hl 0 rfl) ?_
                  refine lv_iconst (v := 2) hx hb dX7_statement_123 (by decide) ?_
                  refine lv_iconst (v := 0) hx hb dX7_statement_124 (by decide) ?_
                  refine lv_bipush (v := 99) hx hb dX7_statement_125 (by decide) ?_
                  have : (gi (C_581 0) 7).toInt = (gi (C_573 0) 7).toInt := congrArg (fun z => (vi z).toInt) (f_583.2 7 (by decide))
                  have : (gi (C_581 0) 13).toInt = (gi (C_573 0) 13).toInt := congrArg (fun z => (vi z).toInt) (f_583.2 13 (by decide))
                  have : 0 ≤ (gi (C_581 0) 21).toInt ∧ (gi (C_581 0) 21).toInt ≤ 250 := fM_0_21 t_584
                  have : 0 ≤ (gi (C_581 0) 7).toInt ∧ (gi (C_581 0) 7).toInt ≤ 250 := fM_0_7 t_584
                  have : 0 ≤ (gi (C_581 0) 23).toInt ∧ (gi (C_581 0) 23).toInt ≤ 250 := fM_0_23 t_584
                  have : 0 ≤ (gi (C_581 0) 13).toInt ∧ (gi (C_581 0) 13).toInt ≤ 5 := fM_0_13 t_584
                  refine tm_V (As := [.ref (G (3 + 30)), .ref (a (64 + (gi (C 0) 13).toNatClampNeg)), .int 2, .int 0, .int 99]) (rest := []) ⟨hx, hb, hml, hown, htg⟩ (c_X7_told l D E G _ a C_581 n hn hT 30 (64 + (gi (C 0) 13).toNatClampNeg) (2 : Int32) (0 : Int32) (99 : Int32) (by decide) ⟨(lt_blk b_571 hn (by decide)), (by omega), 3, fun C h => (h.bwaggon b_571).1, (rg_in (rg_c (v := 2) (lo := 2) (hi := 2) (by decide)) (by decide)), fun C v h h1 h2 => (h.upwaggon b_571 (tA_upd (h.bwaggon b_571) (tA_stc (k := 2) (by decide) (rg_any _) (by decide))))⟩ (by omega)) (cwV 5 htg (oh_gV q_1234 q_1236 q_45 q_73 q_1237) rfl rfl rfl pdVX7_told ⟨Nat.le_of_ble_eq_true rfl, Nat.le_of_ble_eq_true rfl⟩) hK hP hD hG hS hA (va_recv hK hP (ci := 7) (q0 := 0) rfl (oh_wg (Nat.lt_of_lt_of_le (by decide) hn) (sM_0 hT))) rfl hl.1 rfl (Nat.le_of_ble_eq_true rfl) dX7_statement_127 ⟨Nat.le_of_ble_eq_true rfl, Nat.le_of_ble_eq_true rfl⟩ (fun r_588 C_589 H locs hq_590 hP hD hS => ?_)
                  obtain ⟨hT, f_591, hq_590⟩ := hq_590
                  have hF := fr_trk hF f_591 (inR_of (p := (64, 69)) (by decide) (by show 64 ≤ _; omega) (by show _ < 69; omega)) (by decide)
                  refine W.widen (k := 0) (n := 0) (Nat.le_refl _) (Nat.le_refl _) ?_
                  have t_592 := hT
                  refine lv_if_ne (tgt := 135) hx hb dX7_statement_130 (by decide) (fun (c_593 : ¬ (r_588 = 0)) => ?_) (fun (c_593 : r_588 = 0) => ?_)
                  · have u_594 := hq_590.2.2.2.1 c_593
                    have u_595 := hq_590.2.2.2.2 c_593
                    refine lv_aload_n hx hb dX7_statement_135 rfl (lv_at hl 1 rfl) ?_
                    refine lv_dup hx hb dX7_statement_136 rfl ?_
                    refine va_get (D := D) (ci := 7) (v := .int (gi (C 0) 13)) (C := RX7) (T := TX7) (N := 29) hx hb htg ig_7 hown hK hP 0 (oh_wg (Nat.lt_of_lt_of_le (by decide) hn) (sM_0 hT)) rfl 13 (by decide) (htg _ q_986) (fun _ h9 => h9) (oh_fv (c := C_589 0) (j := 13) rfl (Eq.trans (congrArg vi (f_591.2 13 (by decide))) (Eq.trans (congrArg vi (f_583.2 13 (by decide))) (congrArg vi (f_575.2 13 (by decide)))))) dX7_statement_137 ?_
                    refine lv_iconst (v := 1) hx hb dX7_statement_140 (by decide) ?_
                    refine lv_iadd hx hb dX7_statement_141 ?_
                    refine th_put (Tp := TyM a E) (Rl := fr [(13, 14), (24, 48), (48, 64), (64, 69), (69, 74)] [9, 11, 13, 15, 21, 22, 23, 24, 25] C) (ci := 7) (v := .int ((gi (C 0) 13) + 1)) (ty := .int) (CC := RX7) (T := TX7) (N := 29) hx hb htg ig_7 tyX7 tyX7_ok nmX7 hown hK hP hD hS 0 (Nat.lt_of_lt_of_le (by decide) hn) (sM_0 hT) rfl 13 (by decide) (htg _ q_986) (fun _ h9 => h9) rfl (by decide +kernel) rfl rfl (Nat.le_of_ble_eq_true rfl) (hT.up 0 (by decide) ⟨rfl, (fM_0_7 hT), (fM_0_9 hT), (fM_0_11 hT), (rg_w (rg_add (lo := 1) (hi := 5) (rn_ltu (u' := 4) (Int32.not_le.mp c_514) (fM_0_13 hT0) (rg_c (v := 5) (lo := 5) (hi := 5) (by decide)) (by decide)) (rg_c (v := 1) (lo := 1) (hi := 1) (by decide)) (by decide)) (by decide)), (fM_0_15 hT), (fM_0_21 hT), (fM_0_23 hT)⟩) (fr_fd hF (sM_0 hT) (by decide)) dX7_statement_142 (fun C_596 H locs e_597 hT hF hP hD hS => ?_)
                    have t_598 := hT
                    refine lv_iconst (v := 1) hx hb dX7_statement_145 (by decide) ?_
                    have : (gi (C_589 0) 7).toInt = (gi (C_581 0) 7).toInt := congrArg (fun z => (vi z).toInt) (f_591.2 7 (by decide))
                    have : (gi (C_589 0) 13).toInt = (gi (C_581 0) 13).toInt := congrArg (fun z => (vi z).toInt) (f_591.2 13 (by decide))
                    have : (gi (C_596 0) 21).toInt = (gi (C_589 0) 21).toInt := congrArg Int32.toInt (show gi (C_596 0) 21 = gi (C_589 0) 21 by rw [e_597]; rfl)
                    have : (gi (C_596 0) 7).toInt = (gi (C_589 0) 7).toInt := congrArg Int32.toInt (show gi (C_596 0) 7 = gi (C_589 0) 7 by rw [e_597]; rfl)
                    have : (gi (C_596 0) 23).toInt = (gi (C_589 0) 23).toInt := congrArg Int32.toInt (show gi (C_596 0) 23 = gi (C_589 0) 23 by rw [e_597]; rfl)
                    have : (gi (C_596 0) 13).toInt = ((gi (C 0) 13) + 1).toInt := congrArg Int32.toInt (show gi (C_596 0) 13 = ((gi (C 0) 13) + 1) by rw [e_597]; rfl)
                    have : ((gi (C 0) 13) + 1).toInt = (gi (C 0) 13).toInt + 1 := oh_incr (rn_ltu (u' := 4) (Int32.not_le.mp c_514) (fM_0_13 hT0) (rg_c (v := 5) (lo := 5) (hi := 5) (by decide)) (by decide)) (by decide)
                    have : 0 ≤ (gi (C_589 0) 21).toInt ∧ (gi (C_589 0) 21).toInt ≤ 250 := fM_0_21 t_592
                    have : 0 ≤ (gi (C_589 0) 7).toInt ∧ (gi (C_589 0) 7).toInt ≤ 250 := fM_0_7 t_592
                    have : 0 ≤ (gi (C_589 0) 23).toInt ∧ (gi (C_589 0) 23).toInt ≤ 250 := fM_0_23 t_592
                    have : 0 ≤ (gi (C_589 0) 13).toInt ∧ (gi (C_589 0) 13).toInt ≤ 5 := fM_0_13 t_592
                    have : 0 ≤ (gi (C_596 0) 21).toInt ∧ (gi (C_596 0) 21).toInt ≤ 250 := fM_0_21 t_598
                    have : 0 ≤ (gi (C_596 0) 7).toInt ∧ (gi (C_596 0) 7).toInt ≤ 250 := fM_0_7 t_598
                    have : 0 ≤ (gi (C_596 0) 23).toInt ∧ (gi (C_596 0) 23).toInt ≤ 250 := fM_0_23 t_598
                    have : 0 ≤ (gi (C_596 0) 13).toInt ∧ (gi (C_596 0) 13).toInt ≤ 5 := fM_0_13 t_598
                    rw [hQ]
                    exact W.zret (v := 1) (ty := .boolean) hx hb hr (by decide) (fun t ht hW => ⟨⟨1, C_596, rfl, ⟨hT, hF, ⟨(Or.inr rfl), ⟨(by omega), (by omega)⟩, (fun _ => (by omega)), (relW_inc (w := (gi (C 0) 13).toNatClampNeg) (relW_row (w := (gi (C 0) 13).toNatClampNeg) (relW_row (w := (gi (C 0) 13).toNatClampNeg) (relW_row (w := (gi (C 0) 13).toNatClampNeg) hR f_575 (oh_nat (fM_0_13 hT0) (by decide)) (by decide)) f_583 (by rw [(show gi (C_573 0) 13 = gi (C 0) 13 from congrArg vi (f_575.2 13 (by decide)))]; exact oh_nat (fM_0_13 hT0) (by decide)) (by decide)) f_591 (by rw [(Eq.trans (show gi (C_581 0) 13 = gi (C_573 0) 13 from congrArg vi (f_583.2 13 (by decide))) (show gi (C_573 0) 13 = gi (C 0) 13 from congrArg vi (f_575.2 13 (by decide))))]; exact oh_nat (fM_0_13 hT0) (by decide)) (by decide)) (by rw [(Eq.trans (show gi (C_589 0) 13 = gi (C_581 0) 13 from congrArg vi (f_591.2 13 (by decide))) (Eq.trans (show gi (C_581 0) 13 = gi (C_573 0) 13 from congrArg vi (f_583.2 13 (by decide))) (show gi (C_573 0) 13 = gi (C 0) 13 from congrArg vi (f_575.2 13 (by decide)))))]; exact oh_nat (fM_0_13 hT0) (by decide)) (fun k hk => th_un e_597 hk) (Eq.trans (congrArg Int32.toInt (show gi (C_596 0) 13 = (gi (C 0) 13) + 1 by rw [e_597]; rfl)) (by rw [(Eq.trans (show gi (C_589 0) 13 = gi (C_581 0) 13 from congrArg vi (f_591.2 13 (by decide))) (Eq.trans (show gi (C_581 0) 13 = gi (C_573 0) 13 from congrArg vi (f_583.2 13 (by decide))) (show gi (C_573 0) 13 = gi (C 0) 13 from congrArg vi (f_575.2 13 (by decide)))))]; exact oh_inc13 (fM_0_13 hT0))) (by rw [hq_590.2.2.1 _ (by decide), hq_582.2.2.1 _ (by decide)]; exact Int.le_trans (by decide) u_578) (by rw [hq_590.2.2.1 _ (by decide)]; exact Int.le_trans (by decide) u_586)), (by omega)⟩⟩, ⟨by rw [ht]; exact hP, hD⟩⟩, hS.F ht⟩) hS.2.2 dX7_statement_146
                  · refine lv_iconst (v := 0) hx hb dX7_statement_133 (by decide) ?_
                    have : (gi (C_589 0) 7).toInt = (gi (C_581 0) 7).toInt := congrArg (fun z => (vi z).toInt) (f_591.2 7 (by decide))
                    have : (gi (C_589 0) 13).toInt = (gi (C_581 0) 13).toInt := congrArg (fun z => (vi z).toInt) (f_591.2 13 (by decide))
                    have : 0 ≤ (gi (C_589 0) 21).toInt ∧ (gi (C_589 0) 21).toInt ≤ 250 := fM_0_21 t_592
                    have : 0 ≤ (gi (C_589 0) 7).toInt ∧ (gi (C_589 0) 7).toInt ≤ 250 := fM_0_7 t_592
                    have : 0 ≤ (gi (C_589 0) 23).toInt ∧ (gi (C_589 0) 23).toInt ≤ 250 := fM_0_23 t_592
                    have : 0 ≤ (gi (C_589 0) 13).toInt ∧ (gi (C_589 0) 13).toInt ≤ 5 := fM_0_13 t_592
                    rw [hQ]
                    exact W.zret (v := 0) (ty := .boolean) hx hb hr (by decide) (fun t ht hW => ⟨⟨0, C_589, rfl, ⟨hT, hF, ⟨(Or.inl rfl), ⟨(by omega), hq_590.2.1.2⟩, (fun h9 => absurd rfl h9), (relW_row (w := (gi (C 0) 13).toNatClampNeg) (relW_row (w := (gi (C 0) 13).toNatClampNeg) (relW_row (w := (gi (C 0) 13).toNatClampNeg) hR f_575 (oh_nat (fM_0_13 hT0) (by decide)) (by decide)) f_583 (by rw [(show gi (C_573 0) 13 = gi (C 0) 13 from congrArg vi (f_575.2 13 (by decide)))]; exact oh_nat (fM_0_13 hT0) (by decide)) (by decide)) f_591 (by rw [(Eq.trans (show gi (C_581 0) 13 = gi (C_573 0) 13 from congrArg vi (f_583.2 13 (by decide))) (show gi (C_573 0) 13 = gi (C 0) 13 from congrArg vi (f_575.2 13 (by decide))))]; exact oh_nat (fM_0_13 hT0) (by decide)) (by decide)), (by omega)⟩⟩, ⟨by rw [ht]; exact hP, hD⟩⟩, hS.F ht⟩) hS.2.2 dX7_statement_134
        · refine lv_aload_n hx hb dX7_statement_50 rfl (lv_at hl 0 rfl) ?_
          refine lv_aload_n hx hb dX7_statement_51 rfl (lv_at hl 0 rfl) ?_
          refine va_get (D := D) (ci := 7) (v := .ref (a 10)) (C := RX7) (T := TX7) (N := 29) hx hb htg ig_7 hown hK hP 0 (oh_wg (Nat.lt_of_lt_of_le (by decide) hn) (sM_0 hT)) rfl 12 (by decide) (htg _ q_985) (fun _ h9 => h9) rfl dX7_statement_52 ?_
          refine lv_aload_n hx hb dX7_statement_55 rfl (lv_at hl 0 rfl) ?_
          refine va_get (D := D) (ci := 7) (v := .int (gi (C 0) 11)) (C := RX7) (T := TX7) (N := 29) hx hb htg ig_7 hown hK hP 0 (oh_wg (Nat.lt_of_lt_of_le (by decide) hn) (sM_0 hT)) rfl 11 (by decide) (htg _ q_984) (fun _ h9 => h9) rfl dX7_statement_56 ?_
          have n_599 : vp_in (gi (C 0) 11) 16 := (rg_in (rn_ltu (u' := 15) (Int32.not_le.mp c_454) (fM_0_11 hT0) (rg_c (v := 16) (lo := 16) (hi := 16) (by decide)) (by decide)) (by decide))
          have b_600 : (gi (C 0) 11).toNatClampNeg < 16 := vp_lt n_599
          refine th_aald hx hb hK hP 10 2 (Nat.lt_of_lt_of_le (by decide) hn) (sM_10 hT) rfl n_599 dX7_statement_59 ?_
          have : 0 ≤ (gi (C 0) 21).toInt ∧ (gi (C 0) 21).toInt ≤ 250 := fM_0_21 hT0
          have : 0 ≤ (gi (C 0) 7).toInt ∧ (gi (C 0) 7).toInt ≤ 250 := fM_0_7 hT0
          have : 0 ≤ (gi (C 0) 23).toInt ∧ (gi (C 0) 23).toInt ≤ 250 := fM_0_23 hT0
          have : 0 ≤ (gi (C 0) 13).toInt ∧ (gi (C 0) 13).toInt ≤ 5 := fM_0_13 hT0
          have : (24 : Int32).toInt = 24 := rfl
          have : (24 : Int32).toInt ≤ (gi (C 0) 9).toInt := Int32.le_iff_toInt_le.mp c_305
          have : (16 : Int32).toInt = 16 := rfl
          have : (gi (C 0) 11).toInt < (16 : Int32).toInt := Int32.lt_iff_toInt_lt.mp (Int32.not_le.mp c_454)
          refine tm_V (As := [.ref (a (48 + (gi (C 0) 11).toNatClampNeg))]) (rest := []) ⟨hx, hb, hml, hown, htg⟩ (c_X7_bridgeTold l D E G _ a C n hn hT (rg_w (lo := 0) (hi := 15) (rn_ltu (u' := 15) (Int32.not_le.mp c_454) (fM_0_11 hT0) (rg_c (v := 16) (lo := 16) (hi := 16) (by decide)) (by decide)) (by decide)) (by omega)) (cwV 1 htg (oh_gV q_1246 q_1248 q_47 q_73 q_1249) rfl rfl rfl pdVX7_bridgeTold ⟨Nat.le_of_ble_eq_true rfl, Nat.le_of_ble_eq_true rfl⟩) hK hP hD hG hS hA (va_recv hK hP (ci := 7) (q0 := 0) rfl (oh_wg (Nat.lt_of_lt_of_le (by decide) hn) (sM_0 hT))) rfl hl.1 rfl (Nat.le_of_ble_eq_true rfl) dX7_statement_60 ⟨Nat.le_of_ble_eq_true rfl, Nat.le_of_ble_eq_true rfl⟩ (fun r_601 C_602 H locs hq_603 hP hD hS => ?_)
          obtain ⟨hT, f_604, hq_603⟩ := hq_603
          have hF := fr_tr hF f_604 (by decide) (by decide)
          refine W.widen (k := 0) (n := 0) (Nat.le_refl _) (Nat.le_refl _) ?_
          have t_605 := hT
          have : (gi (C_602 0) 7).toInt = (gi (C 0) 7).toInt := congrArg (fun z => (vi z).toInt) (f_604.2 7 (by decide))
          have : (gi (C_602 0) 13).toInt = (gi (C 0) 13).toInt := congrArg (fun z => (vi z).toInt) (f_604.2 13 (by decide))
          have : 0 ≤ (gi (C_602 0) 21).toInt ∧ (gi (C_602 0) 21).toInt ≤ 250 := fM_0_21 t_605
          have : 0 ≤ (gi (C_602 0) 7).toInt ∧ (gi (C_602 0) 7).toInt ≤ 250 := fM_0_7 t_605
          have : 0 ≤ (gi (C_602 0) 23).toInt ∧ (gi (C_602 0) 23).toInt ≤ 250 := fM_0_23 t_605
          have : 0 ≤ (gi (C_602 0) 13).toInt ∧ (gi (C_602 0) 13).toInt ≤ 5 := fM_0_13 t_605
          have : (gi (C_602 0) 7).toInt = (gi (C 0) 7).toInt := congrArg (fun z => (vi z).toInt) (f_604.2 7 (by decide))
          have : (gi (C_602 0) 13).toInt = (gi (C 0) 13).toInt := congrArg (fun z => (vi z).toInt) (f_604.2 13 (by decide))
          have : 0 ≤ (gi (C_602 0) 21).toInt ∧ (gi (C_602 0) 21).toInt ≤ 250 := fM_0_21 t_605
          have : 0 ≤ (gi (C_602 0) 7).toInt ∧ (gi (C_602 0) 7).toInt ≤ 250 := fM_0_7 t_605
          have : 0 ≤ (gi (C_602 0) 23).toInt ∧ (gi (C_602 0) 23).toInt ≤ 250 := fM_0_23 t_605
          have : 0 ≤ (gi (C_602 0) 13).toInt ∧ (gi (C_602 0) 13).toInt ≤ 5 := fM_0_13 t_605
          rw [hQ]
          exact W.zret (v := r_601) (ty := .boolean) hx hb hr (oh_nb hq_603.1) (fun t ht hW => ⟨⟨r_601, C_602, rfl, ⟨hT, hF, ⟨hq_603.1, ⟨hq_603.2.1, hq_603.2.2⟩, (fun h9 => (by omega)), (RelW.fr hR f_604 (by decide)), (by omega)⟩⟩, ⟨by rw [ht]; exact hP, hD⟩⟩, hS.F ht⟩) hS.2.2 dX7_statement_63
    · refine lv_aload_n hx hb dX7_statement_18 rfl (lv_at hl 0 rfl) ?_
      refine lv_aload_n hx hb dX7_statement_19 rfl (lv_at hl 0 rfl) ?_
      refine va_get (D := D) (ci := 7) (v := .ref (a 9)) (C := RX7) (T := TX7) (N := 29) hx hb htg ig_7 hown hK hP 0 (oh_wg (Nat.lt_of_lt_of_le (by decide) hn) (sM_0 hT)) rfl 10 (by decide) (htg _ q_983) (fun _ h9 => h9) rfl dX7_statement_20 ?_
      refine lv_aload_n hx hb dX7_statement_23 rfl (lv_at hl 0 rfl) ?_
      refine va_get (D := D) (ci := 7) (v := .int (gi (C 0) 9)) (C := RX7) (T := TX7) (N := 29) hx hb htg ig_7 hown hK hP 0 (oh_wg (Nat.lt_of_lt_of_le (by decide) hn) (sM_0 hT)) rfl 9 (by decide) (htg _ q_982) (fun _ h9 => h9) rfl dX7_statement_24 ?_
      have n_606 : vp_in (gi (C 0) 9) 24 := (rg_in (rn_ltu (u' := 23) (Int32.not_le.mp c_305) (fM_0_9 hT0) (rg_c (v := 24) (lo := 24) (hi := 24) (by decide)) (by decide)) (by decide))
      have b_607 : (gi (C 0) 9).toNatClampNeg < 24 := vp_lt n_606
      refine th_aald hx hb hK hP 9 2 (Nat.lt_of_lt_of_le (by decide) hn) (sM_9 hT) rfl n_606 dX7_statement_27 ?_
      have : 0 ≤ (gi (C 0) 21).toInt ∧ (gi (C 0) 21).toInt ≤ 250 := fM_0_21 hT0
      have : 0 ≤ (gi (C 0) 7).toInt ∧ (gi (C 0) 7).toInt ≤ 250 := fM_0_7 hT0
      have : 0 ≤ (gi (C 0) 23).toInt ∧ (gi (C 0) 23).toInt ≤ 250 := fM_0_23 hT0
      have : 0 ≤ (gi (C 0) 13).toInt ∧ (gi (C 0) 13).toInt ≤ 5 := fM_0_13 hT0
      have : (24 : Int32).toInt = 24 := rfl
      have : (gi (C 0) 9).toInt < (24 : Int32).toInt := Int32.lt_iff_toInt_lt.mp (Int32.not_le.mp c_305)
      refine tm_V (As := [.ref (a (24 + (gi (C 0) 9).toNatClampNeg))]) (rest := []) ⟨hx, hb, hml, hown, htg⟩ (c_X7_roadTold l D E G _ a C n hn hT (rg_w (lo := 0) (hi := 23) (rn_ltu (u' := 23) (Int32.not_le.mp c_305) (fM_0_9 hT0) (rg_c (v := 24) (lo := 24) (hi := 24) (by decide)) (by decide)) (by decide)) (by omega)) (cwV 1 htg (oh_gV q_1221 q_1223 q_42 q_73 q_1224) rfl rfl rfl pdVX7_roadTold ⟨Nat.le_of_ble_eq_true rfl, Nat.le_of_ble_eq_true rfl⟩) hK hP hD hG hS hA (va_recv hK hP (ci := 7) (q0 := 0) rfl (oh_wg (Nat.lt_of_lt_of_le (by decide) hn) (sM_0 hT))) rfl hl.1 rfl (Nat.le_of_ble_eq_true rfl) dX7_statement_28 ⟨Nat.le_of_ble_eq_true rfl, Nat.le_of_ble_eq_true rfl⟩ (fun r_608 C_609 H locs hq_610 hP hD hS => ?_)
      obtain ⟨hT, f_611, hq_610⟩ := hq_610
      have hF := fr_tr hF f_611 (by decide) (by decide)
      refine W.widen (k := 0) (n := 0) (Nat.le_refl _) (Nat.le_refl _) ?_
      have t_612 := hT
      have : (gi (C_609 0) 7).toInt = (gi (C 0) 7).toInt := congrArg (fun z => (vi z).toInt) (f_611.2 7 (by decide))
      have : (gi (C_609 0) 13).toInt = (gi (C 0) 13).toInt := congrArg (fun z => (vi z).toInt) (f_611.2 13 (by decide))
      have : 0 ≤ (gi (C_609 0) 21).toInt ∧ (gi (C_609 0) 21).toInt ≤ 250 := fM_0_21 t_612
      have : 0 ≤ (gi (C_609 0) 7).toInt ∧ (gi (C_609 0) 7).toInt ≤ 250 := fM_0_7 t_612
      have : 0 ≤ (gi (C_609 0) 23).toInt ∧ (gi (C_609 0) 23).toInt ≤ 250 := fM_0_23 t_612
      have : 0 ≤ (gi (C_609 0) 13).toInt ∧ (gi (C_609 0) 13).toInt ≤ 5 := fM_0_13 t_612
      have : (gi (C_609 0) 7).toInt = (gi (C 0) 7).toInt := congrArg (fun z => (vi z).toInt) (f_611.2 7 (by decide))
      have : (gi (C_609 0) 13).toInt = (gi (C 0) 13).toInt := congrArg (fun z => (vi z).toInt) (f_611.2 13 (by decide))
      have : 0 ≤ (gi (C_609 0) 21).toInt ∧ (gi (C_609 0) 21).toInt ≤ 250 := fM_0_21 t_612
      have : 0 ≤ (gi (C_609 0) 7).toInt ∧ (gi (C_609 0) 7).toInt ≤ 250 := fM_0_7 t_612
      have : 0 ≤ (gi (C_609 0) 23).toInt ∧ (gi (C_609 0) 23).toInt ≤ 250 := fM_0_23 t_612
      have : 0 ≤ (gi (C_609 0) 13).toInt ∧ (gi (C_609 0) 13).toInt ≤ 5 := fM_0_13 t_612
      rw [hQ]
      exact W.zret (v := r_608) (ty := .boolean) hx hb hr (oh_nb hq_610.1) (fun t ht hW => ⟨⟨r_608, C_609, rfl, ⟨hT, hF, ⟨hq_610.1, ⟨hq_610.2.1, hq_610.2.2⟩, (fun h9 => (by omega)), (RelW.fr hR f_611 (by decide)), (by omega)⟩⟩, ⟨by rw [ht]; exact hP, hD⟩⟩, hS.F ht⟩) hS.2.2 dX7_statement_31

set_option maxHeartbeats 4000000 in
set_option maxRecDepth 100000 in
theorem c_X7_read (l : Launch) (D : va_G) (E : Nat → ClassId) (G : Nat → Nat) (sz : Nat) (a : Nat → Nat) (C : Nat → va_E) (n : Nat) (hn : 74 ≤ n) (hT : TyM a E C) (hR : RelW C) : Met l yX7_read (oh_w yX7_read cX7_read 1 (some .boolean)) ({ frames := 9, cells := 0, slots := 0, locals := 199 }) (oh_Pm D E G [.ref (a 0)] (oh_W n a C) sz) (va_Qi (fun r (u : Nat → va_E) => TyM a E u ∧ fr [(13, 14), (24, 48), (48, 64), (64, 69), (69, 74)] [9, 11, 13, 15, 21, 22, 23, 24, 25, 26] C u ∧ (r = 0 ∨ r = 1) ∧ (RelW u) ∧ ((gi (C 0) 13).toInt ≤ (gi (u 0) 13).toInt)) (oh_B D (va_A (oh_W n a C) sz) (fun u => oh_W n a u)) (va_A (oh_W n a C) sz)) 0 0 (va_A (oh_W n a C) sz) := by
  refine Met.ofW (cc := cX7_read) (maxL := 1) (ret := (some .boolean)) (by decide) rfl ?_
  intro p e s m args below meth c s₁ B hml hv
  obtain ⟨rfl, hsz, hP, hK, hD0, hG⟩ := hv
  have hx := B.exec
  have hb := B.bytes
  have hr := B.returns
  have hts := atoms_spec (ws := (oh_w yX7_read cX7_read 1 (some .boolean))) B.pre
  have htg : ∀ w ∈ oh_t, w.before _ s = true := fun w h => hts w (List.mem_cons_of_mem _ h)
  have hown : s.vm.findClass RX7 = some m.cls := findClass_of_methodNamed B.named
  have hlocks := B.notSynchronized
  have hT0 := hT
  subst hsz
  have hD := hD0.self (sz := s.heap.size)
  generalize hAe : va_A (oh_W n a C) s.heap.size = A at hD hG ⊢
  have hA : ∀ q : Nat, s.heap.size ≤ q → A q := fun q h => by rw [← hAe]; exact Or.inr h
  have hS : va_S A s.heap s.heap [] := va_S.rf
  have hF : fr [(13, 14), (24, 48), (48, 64), (64, 69), (69, 74)] [9, 11, 13, 15, 21, 22, 23, 24, 25, 26] C C := fr_rf
  have hl := lv_entry ([.ref (a 0)]) (n := 1) (Nat.le_of_ble_eq_true rfl)
  rw [lg_entry_eq]
  generalize (lg_sl ([.ref (a 0)]) ++ List.replicate (1 - (lg_sl ([.ref (a 0)])).length) Slot.unset).toArray = ls at hl ⊢
  have hl : lv_has ls 1 [(0, .ref (a 0))] := hl
  refine oh_genQ (fun Q hQ => ?_)
  refine lv_aload_n hx hb dX7_read_0 rfl (lv_at hl 0 rfl) ?_
  refine lv_iconst (v := 1) hx hb dX7_read_1 (by decide) ?_
  refine th_put (Tp := TyM a E) (Rl := fr [(13, 14), (24, 48), (48, 64), (64, 69), (69, 74)] [9, 11, 13, 15, 21, 22, 23, 24, 25, 26] C) (ci := 7) (v := .int 1) (ty := .int) (CC := RX7) (T := TX7) (N := 29) hx hb htg ig_7 tyX7 tyX7_ok nmX7 hown hK hP hD hS 0 (Nat.lt_of_lt_of_le (by decide) hn) (sM_0 hT) rfl 26 (by decide) (htg _ q_999) (fun _ h9 => h9) rfl (by decide +kernel) rfl rfl (Nat.le_of_ble_eq_true rfl) (hT.up 0 (by decide) ⟨rfl, (fM_0_7 hT), (fM_0_9 hT), (fM_0_11 hT), (fM_0_13 hT), (fM_0_15 hT), (fM_0_21 hT), (fM_0_23 hT)⟩) (fr_fd hF (sM_0 hT) (by decide)) dX7_read_2 (fun C_1 H locs e_2 hT hF hP hD hS => ?_)
  have t_3 := hT
  refine lv_aload_n hx hb dX7_read_5 rfl (lv_at hl 0 rfl) ?_
  refine lv_iconst (v := 0) hx hb dX7_read_6 (by decide) ?_
  refine th_put (Tp := TyM a E) (Rl := fr [(13, 14), (24, 48), (48, 64), (64, 69), (69, 74)] [9, 11, 13, 15, 21, 22, 23, 24, 25, 26] C) (ci := 7) (v := .int 0) (ty := .int) (CC := RX7) (T := TX7) (N := 29) hx hb htg ig_7 tyX7 tyX7_ok nmX7 hown hK hP hD hS 0 (Nat.lt_of_lt_of_le (by decide) hn) (sM_0 hT) rfl 21 (by decide) (htg _ q_994) (fun _ h9 => h9) rfl (by decide +kernel) rfl rfl (Nat.le_of_ble_eq_true rfl) (hT.up 0 (by decide) ⟨rfl, (fM_0_7 hT), (fM_0_9 hT), (fM_0_11 hT), (fM_0_13 hT), (fM_0_15 hT), (rg_w (rg_c (v := 0) (lo := 0) (hi := 0) (by decide)) (by decide)), (fM_0_23 hT)⟩) (fr_fd hF (sM_0 hT) (by decide)) dX7_read_7 (fun C_4 H locs e_5 hT hF hP hD hS => ?_)
  have t_6 := hT
  refine lv_aload_n hx hb dX7_read_10 rfl (lv_at hl 0 rfl) ?_
  have : (gi (C_1 0) 21).toInt = (gi (C 0) 21).toInt := congrArg Int32.toInt (show gi (C_1 0) 21 = gi (C 0) 21 by rw [e_2]; rfl)
  have : (gi (C_1 0) 7).toInt = (gi (C 0) 7).toInt := congrArg Int32.toInt (show gi (C_1 0) 7 = gi (C 0) 7 by rw [e_2]; rfl)
  have : (gi (C_1 0) 23).toInt = (gi (C 0) 23).toInt := congrArg Int32.toInt (show gi (C_1 0) 23 = gi (C 0) 23 by rw [e_2]; rfl)
  have : (gi (C_1 0) 13).toInt = (gi (C 0) 13).toInt := congrArg Int32.toInt (show gi (C_1 0) 13 = gi (C 0) 13 by rw [e_2]; rfl)
  have : (gi (C_4 0) 21).toInt = (0 : Int32).toInt := congrArg Int32.toInt (show gi (C_4 0) 21 = 0 by rw [e_5]; rfl)
  have : (0 : Int32).toInt = 0 := rfl
  have : (gi (C_4 0) 7).toInt = (gi (C_1 0) 7).toInt := congrArg Int32.toInt (show gi (C_4 0) 7 = gi (C_1 0) 7 by rw [e_5]; rfl)
  have : (gi (C_4 0) 23).toInt = (gi (C_1 0) 23).toInt := congrArg Int32.toInt (show gi (C_4 0) 23 = gi (C_1 0) 23 by rw [e_5]; rfl)
  have : (gi (C_4 0) 13).toInt = (gi (C_1 0) 13).toInt := congrArg Int32.toInt (show gi (C_4 0) 13 = gi (C_1 0) 13 by rw [e_5]; rfl)
  have : 0 ≤ (gi (C 0) 21).toInt ∧ (gi (C 0) 21).toInt ≤ 250 := fM_0_21 hT0
  have : 0 ≤ (gi (C 0) 7).toInt ∧ (gi (C 0) 7).toInt ≤ 250 := fM_0_7 hT0
  have : 0 ≤ (gi (C 0) 23).toInt ∧ (gi (C 0) 23).toInt ≤ 250 := fM_0_23 hT0
  have : 0 ≤ (gi (C 0) 13).toInt ∧ (gi (C 0) 13).toInt ≤ 5 := fM_0_13 hT0
  have : 0 ≤ (gi (C_1 0) 21).toInt ∧ (gi (C_1 0) 21).toInt ≤ 250 := fM_0_21 t_3
  have : 0 ≤ (gi (C_1 0) 7).toInt ∧ (gi (C_1 0) 7).toInt ≤ 250 := fM_0_7 t_3
  have : 0 ≤ (gi (C_1 0) 23).toInt ∧ (gi (C_1 0) 23).toInt ≤ 250 := fM_0_23 t_3
  have : 0 ≤ (gi (C_1 0) 13).toInt ∧ (gi (C_1 0) 13).toInt ≤ 5 := fM_0_13 t_3
  have : 0 ≤ (gi (C_4 0) 21).toInt ∧ (gi (C_4 0) 21).toInt ≤ 250 := fM_0_21 t_6
  have : 0 ≤ (gi (C_4 0) 7).toInt ∧ (gi (C_4 0) 7).toInt ≤ 250 := fM_0_7 t_6
  have : 0 ≤ (gi (C_4 0) 23).toInt ∧ (gi (C_4 0) 23).toInt ≤ 250 := fM_0_23 t_6
  have : 0 ≤ (gi (C_4 0) 13).toInt ∧ (gi (C_4 0) 13).toInt ≤ 5 := fM_0_13 t_6
  refine tm_Vv (As := []) (rest := []) ⟨hx, hb, hml, hown, htg⟩ (c_X7_look l D E G _ a C_4 n hn hT (by omega)) (cwV 0 htg (oh_gV q_1197 q_1199 q_39 q_73 q_1200) rfl rfl rfl pdVX7_look ⟨Nat.le_of_ble_eq_true rfl, Nat.le_of_ble_eq_true rfl⟩) hK hP hD hG hS hA (va_recv hK hP (ci := 7) (q0 := 0) rfl (oh_wg (Nat.lt_of_lt_of_le (by decide) hn) (sM_0 hT))) rfl hl.1 rfl (Nat.le_of_ble_eq_true rfl) dX7_read_11 ⟨Nat.le_of_ble_eq_true rfl, Nat.le_of_ble_eq_true rfl⟩ (fun C_8 H locs hq_9 hP hD hS => ?_)
  obtain ⟨hT, f_10, hq_9⟩ := hq_9
  have hF := fr_tr hF f_10 (by decide) (by decide)
  refine W.widen (k := 0) (n := 0) (Nat.le_refl _) (Nat.le_refl _) ?_
  have t_11 := hT
  refine lv_aload_n hx hb dX7_read_14 rfl (lv_at hl 0 rfl) ?_
  have : (gi (C_8 0) 7).toInt = (gi (C_4 0) 7).toInt := congrArg (fun z => (vi z).toInt) (f_10.2 7 (by decide))
  have : (gi (C_8 0) 13).toInt = (gi (C_4 0) 13).toInt := congrArg (fun z => (vi z).toInt) (f_10.2 13 (by decide))
  have : 0 ≤ (gi (C_8 0) 21).toInt ∧ (gi (C_8 0) 21).toInt ≤ 250 := fM_0_21 t_11
  have : 0 ≤ (gi (C_8 0) 7).toInt ∧ (gi (C_8 0) 7).toInt ≤ 250 := fM_0_7 t_11
  have : 0 ≤ (gi (C_8 0) 23).toInt ∧ (gi (C_8 0) 23).toInt ≤ 250 := fM_0_23 t_11
  have : 0 ≤ (gi (C_8 0) 13).toInt ∧ (gi (C_8 0) 13).toInt ≤ 5 := fM_0_13 t_11
  refine tm_V (As := []) (rest := []) ⟨hx, hb, hml, hown, htg⟩ (c_X7_statement l D E G _ a C_8 n hn hT (by omega) (RelW.fr (RelW.fr (RelW.fr hR (fr_fde (mc := []) (mf := [26]) fr_rf e_2 (sM_0 hT0) (by decide)) (by decide)) (fr_fde (mc := []) (mf := [21]) fr_rf e_5 (sM_0 t_3) (by decide)) (by decide)) f_10 (by decide))) (cwV 0 htg (oh_gV q_1210 q_1212 q_40 q_73 q_1213) rfl rfl rfl pdVX7_statement ⟨Nat.le_of_ble_eq_true rfl, Nat.le_of_ble_eq_true rfl⟩) hK hP hD hG hS hA (va_recv hK hP (ci := 7) (q0 := 0) rfl (oh_wg (Nat.lt_of_lt_of_le (by decide) hn) (sM_0 hT))) rfl hl.1 rfl (Nat.le_of_ble_eq_true rfl) dX7_read_15 ⟨Nat.le_of_ble_eq_true rfl, Nat.le_of_ble_eq_true rfl⟩ (fun r_12 C_13 H locs hq_14 hP hD hS => ?_)
  obtain ⟨hT, f_15, hq_14⟩ := hq_14
  have hF := fr_tr hF f_15 (by decide) (by decide)
  refine W.widen (k := 0) (n := 0) (Nat.le_refl _) (Nat.le_refl _) ?_
  have t_16 := hT
  refine lv_if_ne (tgt := 23) hx hb dX7_read_18 (by decide) (fun (c_17 : ¬ (r_12 = 0)) => ?_) (fun (c_17 : r_12 = 0) => ?_)
  · have u_18 := hq_14.2.2.1 c_17
    have L_23 : ∀ (d : Nat) (K23 : Nat → va_E) (H : Heap) (locs : List Loc) (ls : Array Slot), (250 - (gi (K23 0) 21).toInt).toNat = d → ((gi (K23 0) 21).toInt ≤ (gi (K23 0) 7).toInt ∧ (gi (C 0) 13).toInt ≤ (gi (K23 0) 13).toInt) → (RelW K23) → TyM a E K23 → fr [(13, 14), (24, 48), (48, 64), (64, 69), (69, 74)] [9, 11, 13, 15, 21, 22, 23, 24, 25, 26] C K23 → fr [(13, 14), (24, 48), (48, 64), (64, 69), (69, 74)] [9, 11, 13, 15, 21, 22, 23, 24, 25, 26] C_13 K23 → va_P D vwCl (oh_W n a K23) H → va_D A (oh_W n a K23) → va_S A s.heap H locs → lv_has ls 1 [(0, .ref (a 0))] → W p l e ({ frames := 9, cells := 0, slots := 0, locals := 199 }) s m (([.ref (a 0)] : List Value).toArray) below meth c H locs 0 0 Q (F0 m 23 ls []) := by
      intro d
      induction d using Nat.strongRecOn with
      | ind d ih_23 =>
      intro K23  H locs ls hd_23 hv_23 hr_23 hT hF hLF_23 hP hD hS hl
      have t_19 := hT
      refine lv_aload_n hx hb dX7_read_23 rfl (lv_at hl 0 rfl) ?_
      refine va_get (D := D) (ci := 7) (v := .int (gi (K23 0) 22)) (C := RX7) (T := TX7) (N := 29) hx hb htg ig_7 hown hK hP 0 (oh_wg (Nat.lt_of_lt_of_le (by decide) hn) (sM_0 hT)) rfl 22 (by decide) (htg _ q_995) (fun _ h9 => h9) rfl dX7_read_24 ?_
      refine lv_if_eq (tgt := 69) hx hb dX7_read_27 (by decide) (fun (c_20 : (gi (K23 0) 22) = 0) => ?_) (fun (c_20 : ¬ ((gi (K23 0) 22) = 0)) => ?_)
      · refine lv_iconst (v := 1) hx hb dX7_read_69 (by decide) ?_
        have : (gi (C_13 0) 7).toInt = (gi (C_8 0) 7).toInt := congrArg (fun z => (vi z).toInt) (f_15.2 7 (by decide))
        have : (gi (K23 0) 7).toInt = (gi (C_13 0) 7).toInt := congrArg (fun z => (vi z).toInt) (hLF_23.2 7 (by decide))
        have : 0 ≤ (gi (C_13 0) 21).toInt ∧ (gi (C_13 0) 21).toInt ≤ 250 := fM_0_21 t_16
        have : 0 ≤ (gi (C_13 0) 7).toInt ∧ (gi (C_13 0) 7).toInt ≤ 250 := fM_0_7 t_16
        have : 0 ≤ (gi (C_13 0) 23).toInt ∧ (gi (C_13 0) 23).toInt ≤ 250 := fM_0_23 t_16
        have : 0 ≤ (gi (C_13 0) 13).toInt ∧ (gi (C_13 0) 13).toInt ≤ 5 := fM_0_13 t_16
        have : 0 ≤ (gi (K23 0) 21).toInt ∧ (gi (K23 0) 21).toInt ≤ 250 := fM_0_21 t_19
        have : 0 ≤ (gi (K23 0) 7).toInt ∧ (gi (K23 0) 7).toInt ≤ 250 := fM_0_7 t_19
        have : 0 ≤ (gi (K23 0) 23).toInt ∧ (gi (K23 0) 23).toInt ≤ 250 := fM_0_23 t_19
        have : 0 ≤ (gi (K23 0) 13).toInt ∧ (gi (K23 0) 13).toInt ≤ 5 := fM_0_13 t_19
        rw [hQ]
        exact W.zret (v := 1) (ty := .boolean) hx hb hr (by decide) (fun t ht hW => ⟨⟨1, K23, rfl, ⟨hT, hF, ⟨(Or.inr rfl), hr_23, (by omega)⟩⟩, ⟨by rw [ht]; exact hP, hD⟩⟩, hS.F ht⟩) hS.2.2 dX7_read_70
      · refine lv_aload_n hx hb dX7_read_30 rfl (lv_at hl 0 rfl) ?_
        refine va_get (D := D) (ci := 7) (v := .int (gi (K23 0) 22)) (C := RX7) (T := TX7) (N := 29) hx hb htg ig_7 hown hK hP 0 (oh_wg (Nat.lt_of_lt_of_le (by decide) hn) (sM_0 hT)) rfl 22 (by decide) (htg _ q_995) (fun _ h9 => h9) rfl dX7_read_31 ?_
        refine lv_iconst (v := 3) hx hb dX7_read_34 (by decide) ?_
        refine lv_icmp_eq (tgt := 43) hx hb dX7_read_35 (by decide) (fun (c_21 : (gi (K23 0) 22) = 3) => ?_) (fun (c_21 : ¬ ((gi (K23 0) 22) = 3)) => ?_)
        · refine lv_aload_n hx hb dX7_read_43 rfl (lv_at hl 0 rfl) ?_
          have : (gi (C_13 0) 7).toInt = (gi (C_8 0) 7).toInt := congrArg (fun z => (vi z).toInt) (f_15.2 7 (by decide))
          have : (gi (K23 0) 7).toInt = (gi (C_13 0) 7).toInt := congrArg (fun z => (vi z).toInt) (hLF_23.2 7 (by decide))
          have : 0 ≤ (gi (C_13 0) 21).toInt ∧ (gi (C_13 0) 21).toInt ≤ 250 := fM_0_21 t_16
          have : 0 ≤ (gi (C_13 0) 7).toInt ∧ (gi (C_13 0) 7).toInt ≤ 250 := fM_0_7 t_16
          have : 0 ≤ (gi (C_13 0) 23).toInt ∧ (gi (C_13 0) 23).toInt ≤ 250 := fM_0_23 t_16
          have : 0 ≤ (gi (C_13 0) 13).toInt ∧ (gi (C_13 0) 13).toInt ≤ 5 := fM_0_13 t_16
          have : 0 ≤ (gi (K23 0) 21).toInt ∧ (gi (K23 0) 21).toInt ≤ 250 := fM_0_21 t_19
          have : 0 ≤ (gi (K23 0) 7).toInt ∧ (gi (K23 0) 7).toInt ≤ 250 := fM_0_7 t_19
          have : 0 ≤ (gi (K23 0) 23).toInt ∧ (gi (K23 0) 23).toInt ≤ 250 := fM_0_23 t_19
          have : 0 ≤ (gi (K23 0) 13).toInt ∧ (gi (K23 0) 13).toInt ≤ 5 := fM_0_13 t_19
          have : ¬ (gi (K23 0) 22).toInt = (0 : Int32).toInt := fun h7 => c_20 (Int32.toInt_inj.mp h7)
          have : (3 : Int32).toInt = 3 := rfl
          refine tm_Vv (As := []) (rest := []) ⟨hx, hb, hml, hown, htg⟩ (c_X7_look l D E G _ a K23 n hn hT (by omega)) (cwV 0 htg (oh_gV q_1197 q_1199 q_39 q_73 q_1200) rfl rfl rfl pdVX7_look ⟨Nat.le_of_ble_eq_true rfl, Nat.le_of_ble_eq_true rfl⟩) hK hP hD hG hS hA (va_recv hK hP (ci := 7) (q0 := 0) rfl (oh_wg (Nat.lt_of_lt_of_le (by decide) hn) (sM_0 hT))) rfl hl.1 rfl (Nat.le_of_ble_eq_true rfl) dX7_read_44 ⟨Nat.le_of_ble_eq_true rfl, Nat.le_of_ble_eq_true rfl⟩ (fun C_23 H locs hq_24 hP hD hS => ?_)
          obtain ⟨hT, f_25, hq_24⟩ := hq_24
          have hF := fr_tr hF f_25 (by decide) (by decide)
          refine W.widen (k := 0) (n := 0) (Nat.le_refl _) (Nat.le_refl _) ?_
          have t_26 := hT
          refine lv_aload_n hx hb dX7_read_47 rfl (lv_at hl 0 rfl) ?_
          have : (gi (C_23 0) 7).toInt = (gi (K23 0) 7).toInt := congrArg (fun z => (vi z).toInt) (f_25.2 7 (by decide))
          have : (gi (C_23 0) 13).toInt = (gi (K23 0) 13).toInt := congrArg (fun z => (vi z).toInt) (f_25.2 13 (by decide))
          have : 0 ≤ (gi (C_23 0) 21).toInt ∧ (gi (C_23 0) 21).toInt ≤ 250 := fM_0_21 t_26
          have : 0 ≤ (gi (C_23 0) 7).toInt ∧ (gi (C_23 0) 7).toInt ≤ 250 := fM_0_7 t_26
          have : 0 ≤ (gi (C_23 0) 23).toInt ∧ (gi (C_23 0) 23).toInt ≤ 250 := fM_0_23 t_26
          have : 0 ≤ (gi (C_23 0) 13).toInt ∧ (gi (C_23 0) 13).toInt ≤ 5 := fM_0_13 t_26
          refine tm_V (As := []) (rest := []) ⟨hx, hb, hml, hown, htg⟩ (c_X7_statement l D E G _ a C_23 n hn hT (by omega) (RelW.fr hr_23 f_25 (by decide))) (cwV 0 htg (oh_gV q_1210 q_1212 q_40 q_73 q_1213) rfl rfl rfl pdVX7_statement ⟨Nat.le_of_ble_eq_true rfl, Nat.le_of_ble_eq_true rfl⟩) hK hP hD hG hS hA (va_recv hK hP (ci := 7) (q0 := 0) rfl (oh_wg (Nat.lt_of_lt_of_le (by decide) hn) (sM_0 hT))) rfl hl.1 rfl (Nat.le_of_ble_eq_true rfl) dX7_read_48 ⟨Nat.le_of_ble_eq_true rfl, Nat.le_of_ble_eq_true rfl⟩ (fun r_27 C_28 H locs hq_29 hP hD hS => ?_)
          obtain ⟨hT, f_30, hq_29⟩ := hq_29
          have hF := fr_tr hF f_30 (by decide) (by decide)
          refine W.widen (k := 0) (n := 0) (Nat.le_refl _) (Nat.le_refl _) ?_
          have t_31 := hT
          refine lv_if_ne (tgt := 56) hx hb dX7_read_51 (by decide) (fun (c_32 : ¬ (r_27 = 0)) => ?_) (fun (c_32 : r_27 = 0) => ?_)
          · have u_33 := hq_29.2.2.1 c_32
            refine lv_aload_n hx hb dX7_read_56 rfl (lv_at hl 0 rfl) ?_
            refine lv_dup hx hb dX7_read_57 rfl ?_
            refine va_get (D := D) (ci := 7) (v := .int (gi (K23 0) 26)) (C := RX7) (T := TX7) (N := 29) hx hb htg ig_7 hown hK hP 0 (oh_wg (Nat.lt_of_lt_of_le (by decide) hn) (sM_0 hT)) rfl 26 (by decide) (htg _ q_999) (fun _ h9 => h9) (oh_fv (c := C_28 0) (j := 26) rfl (Eq.trans (congrArg vi (f_30.2 26 (by decide))) (congrArg vi (f_25.2 26 (by decide))))) dX7_read_58 ?_
            refine lv_iconst (v := 1) hx hb dX7_read_61 (by decide) ?_
            refine lv_iadd hx hb dX7_read_62 ?_
            refine th_put (Tp := TyM a E) (Rl := fr [(13, 14), (24, 48), (48, 64), (64, 69), (69, 74)] [9, 11, 13, 15, 21, 22, 23, 24, 25, 26] C) (ci := 7) (v := .int ((gi (K23 0) 26) + 1)) (ty := .int) (CC := RX7) (T := TX7) (N := 29) hx hb htg ig_7 tyX7 tyX7_ok nmX7 hown hK hP hD hS 0 (Nat.lt_of_lt_of_le (by decide) hn) (sM_0 hT) rfl 26 (by decide) (htg _ q_999) (fun _ h9 => h9) rfl (by decide +kernel) rfl rfl (Nat.le_of_ble_eq_true rfl) (hT.up 0 (by decide) ⟨rfl, (fM_0_7 hT), (fM_0_9 hT), (fM_0_11 hT), (fM_0_13 hT), (fM_0_15 hT), (fM_0_21 hT), (fM_0_23 hT)⟩) (fr_fd hF (sM_0 hT) (by decide)) dX7_read_63 (fun C_34 H locs e_35 hT hF hP hD hS => ?_)
            have t_36 := hT
            refine lv_goto (tgt := 23) hx hb dX7_read_66 (by decide) ?_
            have : (gi (C_28 0) 7).toInt = (gi (C_23 0) 7).toInt := congrArg (fun z => (vi z).toInt) (f_30.2 7 (by decide))
            have : (gi (C_34 0) 21).toInt = (gi (C_28 0) 21).toInt := congrArg Int32.toInt (show gi (C_34 0) 21 = gi (C_28 0) 21 by rw [e_35]; rfl)
            have : (gi (C_34 0) 7).toInt = (gi (C_28 0) 7).toInt := congrArg Int32.toInt (show gi (C_34 0) 7 = gi (C_28 0) 7 by rw [e_35]; rfl)
            have : (gi (C_34 0) 23).toInt = (gi (C_28 0) 23).toInt := congrArg Int32.toInt (show gi (C_34 0) 23 = gi (C_28 0) 23 by rw [e_35]; rfl)
            have : (gi (C_34 0) 13).toInt = (gi (C_28 0) 13).toInt := congrArg Int32.toInt (show gi (C_34 0) 13 = gi (C_28 0) 13 by rw [e_35]; rfl)
            have : 0 ≤ (gi (C_28 0) 21).toInt ∧ (gi (C_28 0) 21).toInt ≤ 250 := fM_0_21 t_31
            have : 0 ≤ (gi (C_28 0) 7).toInt ∧ (gi (C_28 0) 7).toInt ≤ 250 := fM_0_7 t_31
            have : 0 ≤ (gi (C_28 0) 23).toInt ∧ (gi (C_28 0) 23).toInt ≤ 250 := fM_0_23 t_31
            have : 0 ≤ (gi (C_28 0) 13).toInt ∧ (gi (C_28 0) 13).toInt ≤ 5 := fM_0_13 t_31
            have : 0 ≤ (gi (C_34 0) 21).toInt ∧ (gi (C_34 0) 21).toInt ≤ 250 := fM_0_21 t_36
            have : 0 ≤ (gi (C_34 0) 7).toInt ∧ (gi (C_34 0) 7).toInt ≤ 250 := fM_0_7 t_36
            have : 0 ≤ (gi (C_34 0) 23).toInt ∧ (gi (C_34 0) 23).toInt ≤ 250 := fM_0_23 t_36
            have : 0 ≤ (gi (C_34 0) 13).toInt ∧ (gi (C_34 0) 13).toInt ≤ 5 := fM_0_13 t_36
            exact ih_23 _ (hd_23 ▸ (by omega)) C_34  _ _ ls rfl (by omega) (RelW.fr hq_29.2.2.2.1 (fr_fde (mc := []) (mf := [26]) fr_rf e_35 (sM_0 t_31) (by decide)) (by decide)) hT hF (fr_fde (fr_tr (fr_tr hLF_23 f_25 (by decide) (by decide)) f_30 (by decide) (by decide)) e_35 (sM_0 t_31) (by decide)) hP hD hS (lv_sub hl [0] rfl)
          · refine lv_iconst (v := 0) hx hb dX7_read_54 (by decide) ?_
            have : (gi (C_28 0) 7).toInt = (gi (C_23 0) 7).toInt := congrArg (fun z => (vi z).toInt) (f_30.2 7 (by decide))
            have : 0 ≤ (gi (C_28 0) 21).toInt ∧ (gi (C_28 0) 21).toInt ≤ 250 := fM_0_21 t_31
            have : 0 ≤ (gi (C_28 0) 7).toInt ∧ (gi (C_28 0) 7).toInt ≤ 250 := fM_0_7 t_31
            have : 0 ≤ (gi (C_28 0) 23).toInt ∧ (gi (C_28 0) 23).toInt ≤ 250 := fM_0_23 t_31
            have : 0 ≤ (gi (C_28 0) 13).toInt ∧ (gi (C_28 0) 13).toInt ≤ 5 := fM_0_13 t_31
            rw [hQ]
            exact W.zret (v := 0) (ty := .boolean) hx hb hr (by decide) (fun t ht hW => ⟨⟨0, C_28, rfl, ⟨hT, hF, ⟨(Or.inl rfl), hq_29.2.2.2.1, (by omega)⟩⟩, ⟨by rw [ht]; exact hP, hD⟩⟩, hS.F ht⟩) hS.2.2 dX7_read_55
        · refine lv_aload_n hx hb dX7_read_38 rfl (lv_at hl 0 rfl) ?_
          refine tm_V (As := []) (rest := []) ⟨hx, hb, hml, hown, htg⟩ (c_X7_wrong l D E G _ a K23 n hn hT) (cwV 0 htg (oh_gV q_1229 q_1231 q_44 q_73 q_1232) rfl rfl rfl pdVX7_wrong ⟨Nat.le_of_ble_eq_true rfl, Nat.le_of_ble_eq_true rfl⟩) hK hP hD hG hS hA (va_recv hK hP (ci := 7) (q0 := 0) rfl (oh_wg (Nat.lt_of_lt_of_le (by decide) hn) (sM_0 hT))) rfl hl.1 rfl (Nat.le_of_ble_eq_true rfl) dX7_read_39 ⟨Nat.le_of_ble_eq_true rfl, Nat.le_of_ble_eq_true rfl⟩ (fun r_37 C_38 H locs hq_39 hP hD hS => ?_)
          obtain ⟨hT, f_40, hq_39⟩ := hq_39
          have hF := fr_tr hF f_40 (by decide) (by decide)
          refine W.widen (k := 0) (n := 0) (Nat.le_refl _) (Nat.le_refl _) ?_
          have t_41 := hT
          have : (gi (C_13 0) 7).toInt = (gi (C_8 0) 7).toInt := congrArg (fun z => (vi z).toInt) (f_15.2 7 (by decide))
          have : (gi (K23 0) 7).toInt = (gi (C_13 0) 7).toInt := congrArg (fun z => (vi z).toInt) (hLF_23.2 7 (by decide))
          have : (gi (C_38 0) 21).toInt = (gi (K23 0) 21).toInt := congrArg (fun z => (vi z).toInt) (f_40.2 21 (by decide))
          have : (gi (C_38 0) 7).toInt = (gi (K23 0) 7).toInt := congrArg (fun z => (vi z).toInt) (f_40.2 7 (by decide))
          have : (gi (C_38 0) 23).toInt = (gi (K23 0) 23).toInt := congrArg (fun z => (vi z).toInt) (f_40.2 23 (by decide))
          have : (gi (C_38 0) 13).toInt = (gi (K23 0) 13).toInt := congrArg (fun z => (vi z).toInt) (f_40.2 13 (by decide))
          have : 0 ≤ (gi (C_13 0) 21).toInt ∧ (gi (C_13 0) 21).toInt ≤ 250 := fM_0_21 t_16
          have : 0 ≤ (gi (C_13 0) 7).toInt ∧ (gi (C_13 0) 7).toInt ≤ 250 := fM_0_7 t_16
          have : 0 ≤ (gi (C_13 0) 23).toInt ∧ (gi (C_13 0) 23).toInt ≤ 250 := fM_0_23 t_16
          have : 0 ≤ (gi (C_13 0) 13).toInt ∧ (gi (C_13 0) 13).toInt ≤ 5 := fM_0_13 t_16
          have : 0 ≤ (gi (K23 0) 21).toInt ∧ (gi (K23 0) 21).toInt ≤ 250 := fM_0_21 t_19
          have : 0 ≤ (gi (K23 0) 7).toInt ∧ (gi (K23 0) 7).toInt ≤ 250 := fM_0_7 t_19
          have : 0 ≤ (gi (K23 0) 23).toInt ∧ (gi (K23 0) 23).toInt ≤ 250 := fM_0_23 t_19
          have : 0 ≤ (gi (K23 0) 13).toInt ∧ (gi (K23 0) 13).toInt ≤ 5 := fM_0_13 t_19
          have : 0 ≤ (gi (C_38 0) 21).toInt ∧ (gi (C_38 0) 21).toInt ≤ 250 := fM_0_21 t_41
          have : 0 ≤ (gi (C_38 0) 7).toInt ∧ (gi (C_38 0) 7).toInt ≤ 250 := fM_0_7 t_41
          have : 0 ≤ (gi (C_38 0) 23).toInt ∧ (gi (C_38 0) 23).toInt ≤ 250 := fM_0_23 t_41
          have : 0 ≤ (gi (C_38 0) 13).toInt ∧ (gi (C_38 0) 13).toInt ≤ 5 := fM_0_13 t_41
          have : ¬ (gi (K23 0) 22).toInt = (0 : Int32).toInt := fun h7 => c_20 (Int32.toInt_inj.mp h7)
          have : (3 : Int32).toInt = 3 := rfl
          have : ¬ (gi (K23 0) 22).toInt = (3 : Int32).toInt := fun h7 => c_21 (Int32.toInt_inj.mp h7)
          rw [hQ]
          exact W.zret (v := r_37) (ty := .boolean) hx hb hr (oh_nb hq_39.1) (fun t ht hW => ⟨⟨r_37, C_38, rfl, ⟨hT, hF, ⟨hq_39.1, (RelW.fr hr_23 f_40 (by decide)), (by omega)⟩⟩, ⟨by rw [ht]; exact hP, hD⟩⟩, hS.F ht⟩) hS.2.2 dX7_read_42
    have : (gi (C_13 0) 7).toInt = (gi (C_8 0) 7).toInt := congrArg (fun z => (vi z).toInt) (f_15.2 7 (by decide))
    have : 0 ≤ (gi (C_13 0) 21).toInt ∧ (gi (C_13 0) 21).toInt ≤ 250 := fM_0_21 t_16
    have : 0 ≤ (gi (C_13 0) 7).toInt ∧ (gi (C_13 0) 7).toInt ≤ 250 := fM_0_7 t_16
    have : 0 ≤ (gi (C_13 0) 23).toInt ∧ (gi (C_13 0) 23).toInt ≤ 250 := fM_0_23 t_16
    have : 0 ≤ (gi (C_13 0) 13).toInt ∧ (gi (C_13 0) 13).toInt ≤ 5 := fM_0_13 t_16
    exact L_23 _ C_13  _ _ ls rfl (by omega) hq_14.2.2.2.1 hT hF fr_rf hP hD hS (lv_sub hl [0] rfl)
  · refine lv_iconst (v := 0) hx hb dX7_read_21 (by decide) ?_
    have : (gi (C_13 0) 7).toInt = (gi (C_8 0) 7).toInt := congrArg (fun z => (vi z).toInt) (f_15.2 7 (by decide))
    have : 0 ≤ (gi (C_13 0) 21).toInt ∧ (gi (C_13 0) 21).toInt ≤ 250 := fM_0_21 t_16
    have : 0 ≤ (gi (C_13 0) 7).toInt ∧ (gi (C_13 0) 7).toInt ≤ 250 := fM_0_7 t_16
    have : 0 ≤ (gi (C_13 0) 23).toInt ∧ (gi (C_13 0) 23).toInt ≤ 250 := fM_0_23 t_16
    have : 0 ≤ (gi (C_13 0) 13).toInt ∧ (gi (C_13 0) 13).toInt ≤ 5 := fM_0_13 t_16
    rw [hQ]
    exact W.zret (v := 0) (ty := .boolean) hx hb hr (by decide) (fun t ht hW => ⟨⟨0, C_13, rfl, ⟨hT, hF, ⟨(Or.inl rfl), hq_14.2.2.2.1, (by omega)⟩⟩, ⟨by rw [ht]; exact hP, hD⟩⟩, hS.F ht⟩) hS.2.2 dX7_read_22
