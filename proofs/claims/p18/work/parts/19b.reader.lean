set_option maxHeartbeats 4000000 in
set_option maxRecDepth 100000 in
theorem c_X2_enter (l : Launch) (D : va_G) (E : Nat → ClassId) (G : Nat → Nat) (sz : Nat) (a : Nat → Nat) (C : Nat → va_E) (hT : TyX a E C) (x1 : Int32) (hx1 : rg x1 0 3) : Met l yX2_enter (oh_w yX2_enter cX2_enter 2 none) ({ frames := 1, cells := 0, slots := 0, locals := 21 }) (oh_Pm D E G [.ref (a 6), .int x1] (oh_W 35 a C) sz) (va_Qv (fun (u : Nat → va_E) => TyX a E u ∧ fr [(5, 6)] [] C u ∧ (gi (u 5) 2 = -1 → gi (C 5) 2 = -1) ∧ (gi (u 5) 2 = -1 → ga (C 10) x1.toNatClampNeg < oh_room x1.toNatClampNeg)) (oh_B D (va_A (oh_W 35 a C) sz) (fun u => oh_W 35 a u)) (va_A (oh_W 35 a C) sz)) 0 0 (va_A (oh_W 35 a C) sz) := by
  refine Met.ofW (cc := cX2_enter) (maxL := 2) (ret := none) (by decide) rfl ?_
  intro p e s m args below meth c s₁ B hml hv
  obtain ⟨rfl, hsz, hP, hK, hD0, hG⟩ := hv
  have hx := B.exec
  have hb := B.bytes
  have hr := B.returns
  have hts := atoms_spec (ws := (oh_w yX2_enter cX2_enter 2 none)) B.pre
  have htg : ∀ w ∈ oh_t, w.before _ s = true := fun w h => hts w (List.mem_cons_of_mem _ h)
  have hown : s.vm.findClass RX2 = some m.cls := findClass_of_methodNamed B.named
  have hlocks := B.notSynchronized
  have hT0 := hT
  subst hsz
  have hD := hD0.self (sz := s.heap.size)
  generalize hAe : va_A (oh_W 35 a C) s.heap.size = A at hD hG ⊢
  have hA : ∀ q : Nat, s.heap.size ≤ q → A q := fun q h => by rw [← hAe]; exact Or.inr h
  have hS : va_S A s.heap s.heap [] := va_S.rf
  have hF : fr [(5, 6)] [] C C := fr_rf
  have hl := lv_entry ([.ref (a 6), .int x1]) (n := 2) (Nat.le_of_ble_eq_true rfl)
  rw [lg_entry_eq]
  generalize (lg_sl ([.ref (a 6), .int x1]) ++ List.replicate (2 - (lg_sl ([.ref (a 6), .int x1])).length) Slot.unset).toArray = ls at hl ⊢
  have hl : lv_has ls 2 [(0, .ref (a 6)), (1, .int x1)] := hl
  refine oh_genQ (fun Q hQ => ?_)
  refine lv_aload_n hx hb dX2_enter_0 rfl (lv_at hl 0 rfl) ?_
  refine va_get (D := D) (ci := 2) (v := .ref (a 1)) (C := RX2) (T := TX2) (N := 4) hx hb htg ig_2 hown hK hP 6 (oh_wg (by decide) (sX_6 hT)) rfl 1 (by decide) (htg _ q_246) (fun _ h9 => h9) rfl dX2_enter_1 ?_
  refine lv_iload_n hx hb dX2_enter_4 rfl (lv_at hl 1 rfl) ?_
  refine tq_V (As := [.int x1]) (rest := []) (ws := (oh_W 35 a C)) ⟨hx, hb, hml, hown, htg⟩ (c_X0_hasRoom l D E G a C hT x1 (rg_w hx1 (by decide))) (cwV 1 htg (oh_gV q_577 q_417 q_418 q_67 q_419) rfl rfl rfl pdVX0_hasRoom ⟨Nat.le_of_ble_eq_true rfl, Nat.le_of_ble_eq_true rfl⟩) hK hP hG hS (va_recv hK hP (ci := 0) (q0 := 1) rfl (oh_wg (by decide) (sX_1 hT))) rfl hl.1 rfl (Nat.le_of_ble_eq_true rfl) dX2_enter_5 ⟨Nat.le_of_ble_eq_true rfl, Nat.le_of_ble_eq_true rfl⟩ (fun r_1 hq_2 => ?_)
  refine lv_if_eq (tgt := 21) hx hb dX2_enter_8 (by decide) (fun (c_3 : r_1 = 0) => ?_) (fun (c_3 : ¬ (r_1 = 0)) => ?_)
  · refine lv_aload_n hx hb dX2_enter_21 rfl (lv_at hl 0 rfl) ?_
    refine va_get (D := D) (ci := 2) (v := .ref (a 5)) (C := RX2) (T := TX2) (N := 4) hx hb htg ig_2 hown hK hP 6 (oh_wg (by decide) (sX_6 hT)) rfl 0 (by decide) (htg _ q_245) (fun _ h9 => h9) rfl dX2_enter_22 ?_
    refine tm_Vv (As := []) (rest := []) ⟨hx, hb, hml, hown, htg⟩ (c_X4_fail l D E G _ a C hT) (cwV 0 htg (oh_gV q_579 q_580 q_581 q_71 q_582) rfl rfl rfl pdVX4_fail ⟨Nat.le_of_ble_eq_true rfl, Nat.le_of_ble_eq_true rfl⟩) hK hP hD hG hS hA (va_recv hK hP (ci := 4) (q0 := 5) rfl (oh_wg (by decide) (sX_5 hT))) rfl hl.1 rfl (Nat.le_of_ble_eq_true rfl) dX2_enter_25 ⟨Nat.le_of_ble_eq_true rfl, Nat.le_of_ble_eq_true rfl⟩ (fun C_5 H locs hq_6 hP hD hS => ?_)
    obtain ⟨hT, f_7, hq_6⟩ := hq_6
    have hF := fr_tr hF f_7 (by decide) (by decide)
    refine W.widen (k := 0) (n := 0) (Nat.le_refl _) (Nat.le_refl _) ?_
    have t_8 := hT
    rw [hQ]
    exact W.vret hx hb hr (fun t ht hW => ⟨⟨C_5, rfl, ⟨hT, hF, ⟨(fun h8 => ((fun h7 => absurd h7 (oh_nfl hq_6)) h8)), (fun h8 => absurd h8 (oh_nfl hq_6))⟩⟩, ⟨by rw [ht]; exact hP, hD⟩⟩, hS.F ht⟩) hS.2.2 dX2_enter_28
  · have u_9 := hq_2.2 c_3
    refine lv_aload_n hx hb dX2_enter_11 rfl (lv_at hl 0 rfl) ?_
    refine va_get (D := D) (ci := 2) (v := .ref (a 5)) (C := RX2) (T := TX2) (N := 4) hx hb htg ig_2 hown hK hP 6 (oh_wg (by decide) (sX_6 hT)) rfl 0 (by decide) (htg _ q_245) (fun _ h9 => h9) rfl dX2_enter_12 ?_
    refine tm_Vv (As := []) (rest := []) ⟨hx, hb, hml, hown, htg⟩ (c_X4_advance l D E G _ a C hT) (cwV 0 htg (oh_gV q_578 q_509 q_510 q_71 q_511) rfl rfl rfl pdVX4_advance ⟨Nat.le_of_ble_eq_true rfl, Nat.le_of_ble_eq_true rfl⟩) hK hP hD hG hS hA (va_recv hK hP (ci := 4) (q0 := 5) rfl (oh_wg (by decide) (sX_5 hT))) rfl hl.1 rfl (Nat.le_of_ble_eq_true rfl) dX2_enter_15 ⟨Nat.le_of_ble_eq_true rfl, Nat.le_of_ble_eq_true rfl⟩ (fun C_11 H locs hq_12 hP hD hS => ?_)
    obtain ⟨hT, f_13, hq_12⟩ := hq_12
    have hF := fr_tr hF f_13 (by decide) (by decide)
    refine W.widen (k := 0) (n := 0) (Nat.le_refl _) (Nat.le_refl _) ?_
    have t_14 := hT
    refine lv_goto (tgt := 28) hx hb dX2_enter_18 (by decide) ?_
    rw [hQ]
    exact W.vret hx hb hr (fun t ht hW => ⟨⟨C_11, rfl, ⟨hT, hF, ⟨(fun h8 => ((fun h7 => Eq.trans (hq_12).symm h7) h8)), (fun _ => u_9)⟩⟩, ⟨by rw [ht]; exact hP, hD⟩⟩, hS.F ht⟩) hS.2.2 dX2_enter_28

set_option maxHeartbeats 4000000 in
set_option maxRecDepth 100000 in
theorem c_X2_number (l : Launch) (D : va_G) (E : Nat → ClassId) (G : Nat → Nat) (sz : Nat) (a : Nat → Nat) (C : Nat → va_E) (hT : TyX a E C) (j : Nat) (x1 : Int32) (x2 : Int32) (hj : j < 34) : Met l yX2_number (oh_w yX2_number cX2_number 4 (some .int)) ({ frames := 6, cells := 0, slots := 0, locals := 128 }) (oh_Pm D E G [.ref (a 6), .ref (G (3 + j)), .int x1, .int x2] (oh_W 35 a C) sz) (va_Qi (fun r (u : Nat → va_E) => TyX a E u ∧ fr [(5, 6)] [] C u ∧ (gi (u 5) 2 = -1 → gi (C 5) 2 = -1) ∧ (gi (u 5) 2 = -1 → x1 ≤ r ∧ r ≤ x2)) (oh_B D (va_A (oh_W 35 a C) sz) (fun u => oh_W 35 a u)) (va_A (oh_W 35 a C) sz)) 0 0 (va_A (oh_W 35 a C) sz) := by
  refine Met.ofW (cc := cX2_number) (maxL := 4) (ret := (some .int)) (by decide) rfl ?_
  intro p e s m args below meth c s₁ B hml hv
  obtain ⟨rfl, hsz, hP, hK, hD0, hG⟩ := hv
  have hx := B.exec
  have hb := B.bytes
  have hr := B.returns
  have hts := atoms_spec (ws := (oh_w yX2_number cX2_number 4 (some .int))) B.pre
  have htg : ∀ w ∈ oh_t, w.before _ s = true := fun w h => hts w (List.mem_cons_of_mem _ h)
  have hown : s.vm.findClass RX2 = some m.cls := findClass_of_methodNamed B.named
  have hlocks := B.notSynchronized
  have hT0 := hT
  subst hsz
  have hD := hD0.self (sz := s.heap.size)
  generalize hAe : va_A (oh_W 35 a C) s.heap.size = A at hD hG ⊢
  have hA : ∀ q : Nat, s.heap.size ≤ q → A q := fun q h => by rw [← hAe]; exact Or.inr h
  have hS : va_S A s.heap s.heap [] := va_S.rf
  have hF : fr [(5, 6)] [] C C := fr_rf
  have hl := lv_entry ([.ref (a 6), .ref (G (3 + j)), .int x1, .int x2]) (n := 4) (Nat.le_of_ble_eq_true rfl)
  rw [lg_entry_eq]
  generalize (lg_sl ([.ref (a 6), .ref (G (3 + j)), .int x1, .int x2]) ++ List.replicate (4 - (lg_sl ([.ref (a 6), .ref (G (3 + j)), .int x1, .int x2])).length) Slot.unset).toArray = ls at hl ⊢
  have hl : lv_has ls 4 [(0, .ref (a 6)), (1, .ref (G (3 + j))), (2, .int x1), (3, .int x2)] := hl
  refine oh_genQ (fun Q hQ => ?_)
  refine lv_aload_n hx hb dX2_number_0 rfl (lv_at hl 0 rfl) ?_
  refine va_get (D := D) (ci := 2) (v := .ref (a 5)) (C := RX2) (T := TX2) (N := 4) hx hb htg ig_2 hown hK hP 6 (oh_wg (by decide) (sX_6 hT)) rfl 0 (by decide) (htg _ q_245) (fun _ h9 => h9) rfl dX2_number_1 ?_
  refine lv_aload_n hx hb dX2_number_4 rfl (lv_at hl 1 rfl) ?_
  refine tm_Vv (As := [.ref (G (3 + j))]) (rest := []) ⟨hx, hb, hml, hown, htg⟩ (c_X4_takeWord l D E G _ a C hT j hj) (cwV 1 htg (oh_gV q_603 q_604 q_605 q_71 q_606) rfl rfl rfl pdVX4_takeWord ⟨Nat.le_of_ble_eq_true rfl, Nat.le_of_ble_eq_true rfl⟩) hK hP hD hG hS hA (va_recv hK hP (ci := 4) (q0 := 5) rfl (oh_wg (by decide) (sX_5 hT))) rfl hl.1 rfl (Nat.le_of_ble_eq_true rfl) dX2_number_5 ⟨Nat.le_of_ble_eq_true rfl, Nat.le_of_ble_eq_true rfl⟩ (fun C_2 H locs hq_3 hP hD hS => ?_)
  obtain ⟨hT, f_4, hq_3⟩ := hq_3
  have hF := fr_tr hF f_4 (by decide) (by decide)
  refine W.widen (k := 0) (n := 0) (Nat.le_refl _) (Nat.le_refl _) ?_
  have t_5 := hT
  refine lv_aload_n hx hb dX2_number_8 rfl (lv_at hl 0 rfl) ?_
  refine va_get (D := D) (ci := 2) (v := .ref (a 5)) (C := RX2) (T := TX2) (N := 4) hx hb htg ig_2 hown hK hP 6 (oh_wg (by decide) (sX_6 hT)) rfl 0 (by decide) (htg _ q_245) (fun _ h9 => h9) rfl dX2_number_9 ?_
  refine lv_iload_n hx hb dX2_number_12 rfl (lv_at hl 2 rfl) ?_
  refine lv_iload_n hx hb dX2_number_13 rfl (lv_at hl 3 rfl) ?_
  refine tm_V (As := [.int x1, .int x2]) (rest := []) ⟨hx, hb, hml, hown, htg⟩ (c_X4_takeNumber l D E G _ a C_2 hT x1 x2) (cwV 2 htg (oh_gV q_583 q_584 q_585 q_71 q_586) rfl rfl rfl pdVX4_takeNumber ⟨Nat.le_of_ble_eq_true rfl, Nat.le_of_ble_eq_true rfl⟩) hK hP hD hG hS hA (va_recv hK hP (ci := 4) (q0 := 5) rfl (oh_wg (by decide) (sX_5 hT))) rfl hl.1 rfl (Nat.le_of_ble_eq_true rfl) dX2_number_14 ⟨Nat.le_of_ble_eq_true rfl, Nat.le_of_ble_eq_true rfl⟩ (fun r_6 C_7 H locs hq_8 hP hD hS => ?_)
  obtain ⟨hT, f_9, hq_8⟩ := hq_8
  have hF := fr_tr hF f_9 (by decide) (by decide)
  refine W.widen (k := 0) (n := 0) (Nat.le_refl _) (Nat.le_refl _) ?_
  have t_10 := hT
  rw [hQ]
  exact W.iret (v := r_6) hx hb hr (fun t ht hW => ⟨⟨r_6, C_7, rfl, ⟨hT, hF, ⟨(fun h8 => (hq_3 (hq_8.1 h8))), hq_8.2⟩⟩, ⟨by rw [ht]; exact hP, hD⟩⟩, hS.F ht⟩) hS.2.2 dX2_number_17

set_option maxHeartbeats 4000000 in
set_option maxRecDepth 100000 in
theorem c_X2_numberIfTold (l : Launch) (D : va_G) (E : Nat → ClassId) (G : Nat → Nat) (sz : Nat) (a : Nat → Nat) (C : Nat → va_E) (hT : TyX a E C) (j : Nat) (x1 : Int32) (x2 : Int32) (x3 : Int32) (hj : j < 34) : Met l yX2_numberIfTold (oh_w yX2_numberIfTold cX2_numberIfTold 5 (some .int)) ({ frames := 6, cells := 0, slots := 0, locals := 129 }) (oh_Pm D E G [.ref (a 6), .ref (G (3 + j)), .int x1, .int x2, .int x3] (oh_W 35 a C) sz) (va_Qi (fun r (u : Nat → va_E) => TyX a E u ∧ fr [(5, 6)] [] C u ∧ (gi (u 5) 2 = -1 → gi (C 5) 2 = -1)) (oh_B D (va_A (oh_W 35 a C) sz) (fun u => oh_W 35 a u)) (va_A (oh_W 35 a C) sz)) 0 0 (va_A (oh_W 35 a C) sz) := by
  refine Met.ofW (cc := cX2_numberIfTold) (maxL := 5) (ret := (some .int)) (by decide) rfl ?_
  intro p e s m args below meth c s₁ B hml hv
  obtain ⟨rfl, hsz, hP, hK, hD0, hG⟩ := hv
  have hx := B.exec
  have hb := B.bytes
  have hr := B.returns
  have hts := atoms_spec (ws := (oh_w yX2_numberIfTold cX2_numberIfTold 5 (some .int))) B.pre
  have htg : ∀ w ∈ oh_t, w.before _ s = true := fun w h => hts w (List.mem_cons_of_mem _ h)
  have hown : s.vm.findClass RX2 = some m.cls := findClass_of_methodNamed B.named
  have hlocks := B.notSynchronized
  have hT0 := hT
  subst hsz
  have hD := hD0.self (sz := s.heap.size)
  generalize hAe : va_A (oh_W 35 a C) s.heap.size = A at hD hG ⊢
  have hA : ∀ q : Nat, s.heap.size ≤ q → A q := fun q h => by rw [← hAe]; exact Or.inr h
  have hS : va_S A s.heap s.heap [] := va_S.rf
  have hF : fr [(5, 6)] [] C C := fr_rf
  have hl := lv_entry ([.ref (a 6), .ref (G (3 + j)), .int x1, .int x2, .int x3]) (n := 5) (Nat.le_of_ble_eq_true rfl)
  rw [lg_entry_eq]
  generalize (lg_sl ([.ref (a 6), .ref (G (3 + j)), .int x1, .int x2, .int x3]) ++ List.replicate (5 - (lg_sl ([.ref (a 6), .ref (G (3 + j)), .int x1, .int x2, .int x3])).length) Slot.unset).toArray = ls at hl ⊢
  have hl : lv_has ls 5 [(0, .ref (a 6)), (1, .ref (G (3 + j))), (2, .int x1), (3, .int x2), (4, .int x3)] := hl
  refine oh_genQ (fun Q hQ => ?_)
  refine lv_aload_n hx hb dX2_numberIfTold_0 rfl (lv_at hl 0 rfl) ?_
  refine va_get (D := D) (ci := 2) (v := .ref (a 5)) (C := RX2) (T := TX2) (N := 4) hx hb htg ig_2 hown hK hP 6 (oh_wg (by decide) (sX_6 hT)) rfl 0 (by decide) (htg _ q_245) (fun _ h9 => h9) rfl dX2_numberIfTold_1 ?_
  refine lv_aload_n hx hb dX2_numberIfTold_4 rfl (lv_at hl 1 rfl) ?_
  refine tm_V (As := [.ref (G (3 + j))]) (rest := []) ⟨hx, hb, hml, hown, htg⟩ (c_X4_takeWordIfThere l D E G _ a C hT j hj) (cwV 1 htg (oh_gV q_613 q_614 q_615 q_71 q_616) rfl rfl rfl pdVX4_takeWordIfThere ⟨Nat.le_of_ble_eq_true rfl, Nat.le_of_ble_eq_true rfl⟩) hK hP hD hG hS hA (va_recv hK hP (ci := 4) (q0 := 5) rfl (oh_wg (by decide) (sX_5 hT))) rfl hl.1 rfl (Nat.le_of_ble_eq_true rfl) dX2_numberIfTold_5 ⟨Nat.le_of_ble_eq_true rfl, Nat.le_of_ble_eq_true rfl⟩ (fun r_1 C_2 H locs hq_3 hP hD hS => ?_)
  obtain ⟨hT, f_4, hq_3⟩ := hq_3
  have hF := fr_tr hF f_4 (by decide) (by decide)
  refine W.widen (k := 0) (n := 0) (Nat.le_refl _) (Nat.le_refl _) ?_
  have t_5 := hT
  refine lv_if_eq (tgt := 23) hx hb dX2_numberIfTold_8 (by decide) (fun (c_6 : r_1 = 0) => ?_) (fun (c_6 : ¬ (r_1 = 0)) => ?_)
  · refine lv_iload hx hb dX2_numberIfTold_23 (lv_at hl 4 rfl) ?_
    rw [hQ]
    exact W.iret (v := x3) hx hb hr (fun t ht hW => ⟨⟨x3, C_2, rfl, ⟨hT, hF, hq_3.2⟩, ⟨by rw [ht]; exact hP, hD⟩⟩, hS.F ht⟩) hS.2.2 dX2_numberIfTold_25
  · refine lv_aload_n hx hb dX2_numberIfTold_11 rfl (lv_at hl 0 rfl) ?_
    refine va_get (D := D) (ci := 2) (v := .ref (a 5)) (C := RX2) (T := TX2) (N := 4) hx hb htg ig_2 hown hK hP 6 (oh_wg (by decide) (sX_6 hT)) rfl 0 (by decide) (htg _ q_245) (fun _ h9 => h9) rfl dX2_numberIfTold_12 ?_
    refine lv_iload_n hx hb dX2_numberIfTold_15 rfl (lv_at hl 2 rfl) ?_
    refine lv_iload_n hx hb dX2_numberIfTold_16 rfl (lv_at hl 3 rfl) ?_
    refine tm_V (As := [.int x1, .int x2]) (rest := []) ⟨hx, hb, hml, hown, htg⟩ (c_X4_takeNumber l D E G _ a C_2 hT x1 x2) (cwV 2 htg (oh_gV q_583 q_584 q_585 q_71 q_586) rfl rfl rfl pdVX4_takeNumber ⟨Nat.le_of_ble_eq_true rfl, Nat.le_of_ble_eq_true rfl⟩) hK hP hD hG hS hA (va_recv hK hP (ci := 4) (q0 := 5) rfl (oh_wg (by decide) (sX_5 hT))) rfl hl.1 rfl (Nat.le_of_ble_eq_true rfl) dX2_numberIfTold_17 ⟨Nat.le_of_ble_eq_true rfl, Nat.le_of_ble_eq_true rfl⟩ (fun r_7 C_8 H locs hq_9 hP hD hS => ?_)
    obtain ⟨hT, f_10, hq_9⟩ := hq_9
    have hF := fr_tr hF f_10 (by decide) (by decide)
    refine W.widen (k := 0) (n := 0) (Nat.le_refl _) (Nat.le_refl _) ?_
    have t_11 := hT
    refine lv_goto (tgt := 25) hx hb dX2_numberIfTold_20 (by decide) ?_
    rw [hQ]
    exact W.iret (v := r_7) hx hb hr (fun t ht hW => ⟨⟨r_7, C_8, rfl, ⟨hT, hF, (fun h8 => (hq_3.2 (hq_9.1 h8)))⟩, ⟨by rw [ht]; exact hP, hD⟩⟩, hS.F ht⟩) hS.2.2 dX2_numberIfTold_25

set_option maxHeartbeats 4000000 in
set_option maxRecDepth 100000 in
theorem c_X2_readRoad (l : Launch) (D : va_G) (E : Nat → ClassId) (G : Nat → Nat) (sz : Nat) (a : Nat → Nat) (C : Nat → va_E) (hT : TyX a E C) : Met l yX2_readRoad (oh_w yX2_readRoad cX2_readRoad 7 none) ({ frames := 7, cells := 0, slots := 0, locals := 153 }) (oh_Pm D E G [.ref (a 6)] (oh_W 35 a C) sz) (va_Qv (fun (u : Nat → va_E) => TyX a E u ∧ fr [(5, 6), (10, 12)] [] C u ∧ True) (oh_B D (va_A (oh_W 35 a C) sz) (fun u => oh_W 35 a u)) (va_A (oh_W 35 a C) sz)) 0 0 (va_A (oh_W 35 a C) sz) := by
  refine Met.ofW (cc := cX2_readRoad) (maxL := 7) (ret := none) (by decide) rfl ?_
  intro p e s m args below meth c s₁ B hml hv
  obtain ⟨rfl, hsz, hP, hK, hD0, hG⟩ := hv
  have hx := B.exec
  have hb := B.bytes
  have hr := B.returns
  have hts := atoms_spec (ws := (oh_w yX2_readRoad cX2_readRoad 7 none)) B.pre
  have htg : ∀ w ∈ oh_t, w.before _ s = true := fun w h => hts w (List.mem_cons_of_mem _ h)
  have hown : s.vm.findClass RX2 = some m.cls := findClass_of_methodNamed B.named
  have hlocks := B.notSynchronized
  have hT0 := hT
  subst hsz
  have hD := hD0.self (sz := s.heap.size)
  generalize hAe : va_A (oh_W 35 a C) s.heap.size = A at hD hG ⊢
  have hA : ∀ q : Nat, s.heap.size ≤ q → A q := fun q h => by rw [← hAe]; exact Or.inr h
  have hS : va_S A s.heap s.heap [] := va_S.rf
  have hF : fr [(5, 6), (10, 12)] [] C C := fr_rf
  have hl := lv_entry ([.ref (a 6)]) (n := 7) (Nat.le_of_ble_eq_true rfl)
  rw [lg_entry_eq]
  generalize (lg_sl ([.ref (a 6)]) ++ List.replicate (7 - (lg_sl ([.ref (a 6)])).length) Slot.unset).toArray = ls at hl ⊢
  have hl : lv_has ls 7 [(0, .ref (a 6))] := hl
  refine oh_genQ (fun Q hQ => ?_)
  refine lv_aload_n hx hb dX2_readRoad_0 rfl (lv_at hl 0 rfl) ?_
  refine lv_iconst (v := 0) hx hb dX2_readRoad_1 (by decide) ?_
  refine tm_Vv (As := [.int 0]) (rest := []) ⟨hx, hb, hml, hown, htg⟩ (c_X2_enter l D E G _ a C hT (0 : Int32) (rg_w (rg_c (v := 0) (lo := 0) (hi := 0) (by decide)) (by decide))) (cwV 1 htg (oh_gV q_573 q_575 q_8 q_72 q_576) rfl rfl rfl pdVX2_enter ⟨Nat.le_of_ble_eq_true rfl, Nat.le_of_ble_eq_true rfl⟩) hK hP hD hG hS hA (va_recv hK hP (ci := 2) (q0 := 6) rfl (oh_wg (by decide) (sX_6 hT))) rfl hl.1 rfl (Nat.le_of_ble_eq_true rfl) dX2_readRoad_2 ⟨Nat.le_of_ble_eq_true rfl, Nat.le_of_ble_eq_true rfl⟩ (fun C_2 H locs hq_3 hP hD hS => ?_)
  obtain ⟨hT, f_4, hq_3⟩ := hq_3
  have hF := fr_tr hF f_4 (by decide) (by decide)
  refine W.widen (k := 0) (n := 0) (Nat.le_refl _) (Nat.le_refl _) ?_
  have t_5 := hT
  refine lv_aload_n hx hb dX2_readRoad_5 rfl (lv_at hl 0 rfl) ?_
  refine va_get (D := D) (ci := 2) (v := .ref (a 5)) (C := RX2) (T := TX2) (N := 4) hx hb htg ig_2 hown hK hP 6 (oh_wg (by decide) (sX_6 hT)) rfl 0 (by decide) (htg _ q_245) (fun _ h9 => h9) rfl dX2_readRoad_6 ?_
  refine lv_iconst (v := 0) hx hb dX2_readRoad_9 (by decide) ?_
  refine lv_bipush (v := 15) hx hb dX2_readRoad_10 (by decide) ?_
  refine tm_V (As := [.int 0, .int 15]) (rest := []) ⟨hx, hb, hml, hown, htg⟩ (c_X4_takeNumber l D E G _ a C_2 hT (0 : Int32) (15 : Int32)) (cwV 2 htg (oh_gV q_583 q_584 q_585 q_71 q_586) rfl rfl rfl pdVX4_takeNumber ⟨Nat.le_of_ble_eq_true rfl, Nat.le_of_ble_eq_true rfl⟩) hK hP hD hG hS hA (va_recv hK hP (ci := 4) (q0 := 5) rfl (oh_wg (by decide) (sX_5 hT))) rfl hl.1 rfl (Nat.le_of_ble_eq_true rfl) dX2_readRoad_12 ⟨Nat.le_of_ble_eq_true rfl, Nat.le_of_ble_eq_true rfl⟩ (fun r_6 C_7 H locs hq_8 hP hD hS => ?_)
  obtain ⟨hT, f_9, hq_8⟩ := hq_8
  have hF := fr_tr hF f_9 (by decide) (by decide)
  refine W.widen (k := 0) (n := 0) (Nat.le_refl _) (Nat.le_refl _) ?_
  have t_10 := hT
  refine lv_istore_n (lv' := [(1, .int r_6), (0, .ref (a 6))]) hx hb dX2_readRoad_15 rfl hl (by decide) rfl (fun ls hl => ?_)
  refine lv_aload_n hx hb dX2_readRoad_16 rfl (lv_at hl 1 rfl) ?_
  refine va_get (D := D) (ci := 2) (v := .ref (a 5)) (C := RX2) (T := TX2) (N := 4) hx hb htg ig_2 hown hK hP 6 (oh_wg (by decide) (sX_6 hT)) rfl 0 (by decide) (htg _ q_245) (fun _ h9 => h9) rfl dX2_readRoad_17 ?_
  refine tq_V (As := []) (rest := []) (ws := (oh_W 35 a C_7)) ⟨hx, hb, hml, hown, htg⟩ (c_X4_numberHere l D E G a C_7 hT) (cwV 0 htg (oh_gV q_597 q_588 q_589 q_71 q_590) rfl rfl rfl pdVX4_numberHere ⟨Nat.le_of_ble_eq_true rfl, Nat.le_of_ble_eq_true rfl⟩) hK hP hG hS (va_recv hK hP (ci := 4) (q0 := 5) rfl (oh_wg (by decide) (sX_5 hT))) rfl hl.1 rfl (Nat.le_of_ble_eq_true rfl) dX2_readRoad_20 ⟨Nat.le_of_ble_eq_true rfl, Nat.le_of_ble_eq_true rfl⟩ (fun r_11 hq_12 => ?_)
  refine lv_iload_n hx hb dX2_readRoad_23 rfl (lv_at hl 0 rfl) ?_
  refine lv_icmp_ne (tgt := 34) hx hb dX2_readRoad_24 (by decide) (fun (c_13 : ¬ (r_11 = r_6)) => ?_) (fun (c_13 : r_11 = r_6) => ?_)
  · refine lv_aload_n hx hb dX2_readRoad_34 rfl (lv_at hl 1 rfl) ?_
    refine va_get (D := D) (ci := 2) (v := .ref (a 5)) (C := RX2) (T := TX2) (N := 4) hx hb htg ig_2 hown hK hP 6 (oh_wg (by decide) (sX_6 hT)) rfl 0 (by decide) (htg _ q_245) (fun _ h9 => h9) rfl dX2_readRoad_35 ?_
    refine lv_iconst (v := 0) hx hb dX2_readRoad_38 (by decide) ?_
    refine lv_bipush (v := 15) hx hb dX2_readRoad_39 (by decide) ?_
    refine tm_V (As := [.int 0, .int 15]) (rest := []) ⟨hx, hb, hml, hown, htg⟩ (c_X4_takeNumber l D E G _ a C_7 hT (0 : Int32) (15 : Int32)) (cwV 2 htg (oh_gV q_583 q_584 q_585 q_71 q_586) rfl rfl rfl pdVX4_takeNumber ⟨Nat.le_of_ble_eq_true rfl, Nat.le_of_ble_eq_true rfl⟩) hK hP hD hG hS hA (va_recv hK hP (ci := 4) (q0 := 5) rfl (oh_wg (by decide) (sX_5 hT))) rfl hl.1 rfl (Nat.le_of_ble_eq_true rfl) dX2_readRoad_41 ⟨Nat.le_of_ble_eq_true rfl, Nat.le_of_ble_eq_true rfl⟩ (fun r_14 C_15 H locs hq_16 hP hD hS => ?_)
    obtain ⟨hT, f_17, hq_16⟩ := hq_16
    have hF := fr_tr hF f_17 (by decide) (by decide)
    refine W.widen (k := 0) (n := 0) (Nat.le_refl _) (Nat.le_refl _) ?_
    have t_18 := hT
    refine lv_istore_n (lv' := [(2, .int r_14), (1, .int r_6), (0, .ref (a 6))]) hx hb dX2_readRoad_44 rfl hl (by decide) rfl (fun ls hl => ?_)
    refine lv_aload_n hx hb dX2_readRoad_45 rfl (lv_at hl 2 rfl) ?_
    refine va_ldcS hx hb hown (hG.2.2.1 ("OneHeavyLoad$Reader", 117, "miles", 4) (List.mem_of_getElem? (i := 1) rfl)) dX2_readRoad_46 ?_
    refine lv_iconst (v := 1) hx hb dX2_readRoad_48 (by decide) ?_
    refine lv_bipush (v := 60) hx hb dX2_readRoad_49 (by decide) ?_
    refine tm_V (As := [.ref (G (3 + 1)), .int 1, .int 60]) (rest := []) ⟨hx, hb, hml, hown, htg⟩ (c_X2_number l D E G _ a C_15 hT 1 (1 : Int32) (60 : Int32) (by decide)) (cwV 3 htg (oh_gV q_599 q_601 q_9 q_72 q_602) rfl rfl rfl pdVX2_number ⟨Nat.le_of_ble_eq_true rfl, Nat.le_of_ble_eq_true rfl⟩) hK hP hD hG hS hA (va_recv hK hP (ci := 2) (q0 := 6) rfl (oh_wg (by decide) (sX_6 hT))) rfl hl.1 rfl (Nat.le_of_ble_eq_true rfl) dX2_readRoad_51 ⟨Nat.le_of_ble_eq_true rfl, Nat.le_of_ble_eq_true rfl⟩ (fun r_19 C_20 H locs hq_21 hP hD hS => ?_)
    obtain ⟨hT, f_22, hq_21⟩ := hq_21
    have hF := fr_tr hF f_22 (by decide) (by decide)
    refine W.widen (k := 0) (n := 0) (Nat.le_refl _) (Nat.le_refl _) ?_
    have t_23 := hT
    refine lv_istore_n (lv' := [(3, .int r_19), (2, .int r_14), (1, .int r_6), (0, .ref (a 6))]) hx hb dX2_readRoad_54 rfl hl (by decide) rfl (fun ls hl => ?_)
    refine lv_aload_n hx hb dX2_readRoad_55 rfl (lv_at hl 3 rfl) ?_
    refine va_ldcS hx hb hown (hG.2.2.1 ("OneHeavyLoad$Reader", 123, "rise", 5) (List.mem_of_getElem? (i := 2) rfl)) dX2_readRoad_56 ?_
    refine lv_iconst (v := 0) hx hb dX2_readRoad_58 (by decide) ?_
    refine lv_bipush (v := 9) hx hb dX2_readRoad_59 (by decide) ?_
    refine lv_iconst (v := 0) hx hb dX2_readRoad_61 (by decide) ?_
    refine tm_V (As := [.ref (G (3 + 2)), .int 0, .int 9, .int 0]) (rest := []) ⟨hx, hb, hml, hown, htg⟩ (c_X2_numberIfTold l D E G _ a C_20 hT 2 (0 : Int32) (9 : Int32) (0 : Int32) (by decide)) (cwV 4 htg (oh_gV q_609 q_611 q_10 q_72 q_612) rfl rfl rfl pdVX2_numberIfTold ⟨Nat.le_of_ble_eq_true rfl, Nat.le_of_ble_eq_true rfl⟩) hK hP hD hG hS hA (va_recv hK hP (ci := 2) (q0 := 6) rfl (oh_wg (by decide) (sX_6 hT))) rfl hl.1 rfl (Nat.le_of_ble_eq_true rfl) dX2_readRoad_62 ⟨Nat.le_of_ble_eq_true rfl, Nat.le_of_ble_eq_true rfl⟩ (fun r_24 C_25 H locs hq_26 hP hD hS => ?_)
    obtain ⟨hT, f_27, hq_26⟩ := hq_26
    have hF := fr_tr hF f_27 (by decide) (by decide)
    refine W.widen (k := 0) (n := 0) (Nat.le_refl _) (Nat.le_refl _) ?_
    have t_28 := hT
    refine lv_istore (lv' := [(4, .int r_24), (3, .int r_19), (2, .int r_14), (1, .int r_6), (0, .ref (a 6))]) hx hb dX2_readRoad_65 hl (by decide) rfl (fun ls hl => ?_)
    refine lv_aload_n hx hb dX2_readRoad_67 rfl (lv_at hl 4 rfl) ?_
    refine va_ldcS hx hb hown (hG.2.2.1 ("OneHeavyLoad$Reader", 129, "turn", 6) (List.mem_of_getElem? (i := 3) rfl)) dX2_readRoad_68 ?_
    refine lv_iconst (v := 1) hx hb dX2_readRoad_70 (by decide) ?_
    refine lv_bipush (v := 99) hx hb dX2_readRoad_71 (by decide) ?_
    refine lv_bipush (v := 99) hx hb dX2_readRoad_73 (by decide) ?_
    refine tm_V (As := [.ref (G (3 + 3)), .int 1, .int 99, .int 99]) (rest := []) ⟨hx, hb, hml, hown, htg⟩ (c_X2_numberIfTold l D E G _ a C_25 hT 3 (1 : Int32) (99 : Int32) (99 : Int32) (by decide)) (cwV 4 htg (oh_gV q_609 q_611 q_10 q_72 q_612) rfl rfl rfl pdVX2_numberIfTold ⟨Nat.le_of_ble_eq_true rfl, Nat.le_of_ble_eq_true rfl⟩) hK hP hD hG hS hA (va_recv hK hP (ci := 2) (q0 := 6) rfl (oh_wg (by decide) (sX_6 hT))) rfl hl.1 rfl (Nat.le_of_ble_eq_true rfl) dX2_readRoad_75 ⟨Nat.le_of_ble_eq_true rfl, Nat.le_of_ble_eq_true rfl⟩ (fun r_29 C_30 H locs hq_31 hP hD hS => ?_)
    obtain ⟨hT, f_32, hq_31⟩ := hq_31
    have hF := fr_tr hF f_32 (by decide) (by decide)
    refine W.widen (k := 0) (n := 0) (Nat.le_refl _) (Nat.le_refl _) ?_
    have t_33 := hT
    refine lv_istore (lv' := [(5, .int r_29), (4, .int r_24), (3, .int r_19), (2, .int r_14), (1, .int r_6), (0, .ref (a 6))]) hx hb dX2_readRoad_78 hl (by decide) rfl (fun ls hl => ?_)
    refine lv_aload_n hx hb dX2_readRoad_80 rfl (lv_at hl 5 rfl) ?_
    refine va_ldcS hx hb hown (hG.2.2.1 ("OneHeavyLoad$Reader", 131, "parish", 7) (List.mem_of_getElem? (i := 4) rfl)) dX2_readRoad_81 ?_
    refine lv_iconst (v := 0) hx hb dX2_readRoad_83 (by decide) ?_
    refine lv_bipush (v := 15) hx hb dX2_readRoad_84 (by decide) ?_
    refine lv_iconst (v := 0) hx hb dX2_readRoad_86 (by decide) ?_
    refine tm_V (As := [.ref (G (3 + 4)), .int 0, .int 15, .int 0]) (rest := []) ⟨hx, hb, hml, hown, htg⟩ (c_X2_numberIfTold l D E G _ a C_30 hT 4 (0 : Int32) (15 : Int32) (0 : Int32) (by decide)) (cwV 4 htg (oh_gV q_609 q_611 q_10 q_72 q_612) rfl rfl rfl pdVX2_numberIfTold ⟨Nat.le_of_ble_eq_true rfl, Nat.le_of_ble_eq_true rfl⟩) hK hP hD hG hS hA (va_recv hK hP (ci := 2) (q0 := 6) rfl (oh_wg (by decide) (sX_6 hT))) rfl hl.1 rfl (Nat.le_of_ble_eq_true rfl) dX2_readRoad_87 ⟨Nat.le_of_ble_eq_true rfl, Nat.le_of_ble_eq_true rfl⟩ (fun r_34 C_35 H locs hq_36 hP hD hS => ?_)
    obtain ⟨hT, f_37, hq_36⟩ := hq_36
    have hF := fr_tr hF f_37 (by decide) (by decide)
    refine W.widen (k := 0) (n := 0) (Nat.le_refl _) (Nat.le_refl _) ?_
    have t_38 := hT
    refine lv_istore (lv' := [(6, .int r_34), (5, .int r_29), (4, .int r_24), (3, .int r_19), (2, .int r_14), (1, .int r_6), (0, .ref (a 6))]) hx hb dX2_readRoad_90 hl (by decide) rfl (fun ls hl => ?_)
    refine lv_aload_n hx hb dX2_readRoad_92 rfl (lv_at hl 6 rfl) ?_
    refine va_get (D := D) (ci := 2) (v := .ref (a 5)) (C := RX2) (T := TX2) (N := 4) hx hb htg ig_2 hown hK hP 6 (oh_wg (by decide) (sX_6 hT)) rfl 0 (by decide) (htg _ q_245) (fun _ h9 => h9) rfl dX2_readRoad_93 ?_
    refine tq_V (As := []) (rest := []) (ws := (oh_W 35 a C_35)) ⟨hx, hb, hml, hown, htg⟩ (c_X4_isSound l D E G a C_35 hT) (cwV 0 htg (oh_gV q_619 q_592 q_593 q_71 q_594) rfl rfl rfl pdVX4_isSound ⟨Nat.le_of_ble_eq_true rfl, Nat.le_of_ble_eq_true rfl⟩) hK hP hG hS (va_recv hK hP (ci := 4) (q0 := 5) rfl (oh_wg (by decide) (sX_5 hT))) rfl hl.1 rfl (Nat.le_of_ble_eq_true rfl) dX2_readRoad_96 ⟨Nat.le_of_ble_eq_true rfl, Nat.le_of_ble_eq_true rfl⟩ (fun r_39 hq_40 => ?_)
    refine lv_if_eq (tgt := 119) hx hb dX2_readRoad_99 (by decide) (fun (c_41 : r_39 = 0) => ?_) (fun (c_41 : ¬ (r_39 = 0)) => ?_)
    · rw [hQ]
      exact W.vret hx hb hr (fun t ht hW => ⟨⟨C_35, rfl, ⟨hT, hF, trivial⟩, ⟨by rw [ht]; exact hP, hD⟩⟩, hS.F ht⟩) hS.2.2 dX2_readRoad_119
    · have u_42 := hq_40.2 c_41
      have s_43 := u_42
      have s_44 := hq_21.2 (hq_26 (hq_31 (hq_36 s_43)))
      have s_45 := hq_16.2 (hq_21.1 (hq_26 (hq_31 (hq_36 s_43))))
      have s_46 := hq_8.2 (hq_16.1 (hq_21.1 (hq_26 (hq_31 (hq_36 s_43)))))
      have s_47 : ga (C 10) ((0 : Int32)).toNatClampNeg < (24 : Int32) := hq_3.2 (hq_8.1 (hq_16.1 (hq_21.1 (hq_26 (hq_31 (hq_36 s_43))))))
      refine lv_aload_n hx hb dX2_readRoad_102 rfl (lv_at hl 6 rfl) ?_
      refine va_get (D := D) (ci := 2) (v := .ref (a 1)) (C := RX2) (T := TX2) (N := 4) hx hb htg ig_2 hown hK hP 6 (oh_wg (by decide) (sX_6 hT)) rfl 1 (by decide) (htg _ q_246) (fun _ h9 => h9) rfl dX2_readRoad_103 ?_
      refine lv_iload_n hx hb dX2_readRoad_106 rfl (lv_at hl 5 rfl) ?_
      refine lv_iload_n hx hb dX2_readRoad_107 rfl (lv_at hl 4 rfl) ?_
      refine lv_iload_n hx hb dX2_readRoad_108 rfl (lv_at hl 3 rfl) ?_
      refine lv_iload hx hb dX2_readRoad_109 (lv_at hl 2 rfl) ?_
      refine lv_iload hx hb dX2_readRoad_111 (lv_at hl 1 rfl) ?_
      refine lv_iload hx hb dX2_readRoad_113 (lv_at hl 0 rfl) ?_
      refine tm_V (As := [.int r_6, .int r_14, .int r_19, .int r_24, .int r_29, .int r_34]) (rest := []) ⟨hx, hb, hml, hown, htg⟩ (c_X0_addRoad l D E G _ a C_35 hT r_6 r_14 r_19 r_24 r_29 r_34 (rg_w (rn_leu s_46.2 (rn_lel s_46.1 (rg_c (v := 0) (lo := 0) (hi := 0) (by decide)) (rg_any _)) (rg_c (v := 15) (lo := 15) (hi := 15) (by decide))) (by decide)) (rg_w (rn_leu s_45.2 (rn_lel s_45.1 (rg_c (v := 0) (lo := 0) (hi := 0) (by decide)) (rg_any _)) (rg_c (v := 15) (lo := 15) (hi := 15) (by decide))) (by decide)) (oh_rgA (Eq.trans (f_37.1 10 rfl (by decide)) (Eq.trans (f_32.1 10 rfl (by decide)) (Eq.trans (f_27.1 10 rfl (by decide)) (Eq.trans (f_22.1 10 rfl (by decide)) (Eq.trans (f_17.1 10 rfl (by decide)) (Eq.trans (f_9.1 10 rfl (by decide)) (f_4.1 10 rfl (by decide)))))))) (rg_w (lo := 0) (hi := 23) (rn_ltu (u' := 23) s_47 (tA_rdc (lo := 0) (hi := 24) (tX_10 hT0) (rg_in (rg_c (v := 0) (lo := 0) (hi := 0) (by decide)) (by decide)) (show _ = 0 by decide) (by decide)) (rg_c (v := 24) (lo := 24) (hi := 24) (by decide)) (by decide)) (by decide)))) (cwV 6 htg (oh_gV q_620 q_421 q_422 q_67 q_423) rfl rfl rfl pdVX0_addRoad ⟨Nat.le_of_ble_eq_true rfl, Nat.le_of_ble_eq_true rfl⟩) hK hP hD hG hS hA (va_recv hK hP (ci := 0) (q0 := 1) rfl (oh_wg (by decide) (sX_1 hT))) rfl hl.1 rfl (Nat.le_of_ble_eq_true rfl) dX2_readRoad_115 ⟨Nat.le_of_ble_eq_true rfl, Nat.le_of_ble_eq_true rfl⟩ (fun r_48 C_49 H locs hq_50 hP hD hS => ?_)
      obtain ⟨hT, f_51, hq_50⟩ := hq_50
      have hF := fr_tr hF f_51 (by decide) (by decide)
      refine W.widen (k := 0) (n := 0) (Nat.le_refl _) (Nat.le_refl _) ?_
      have t_52 := hT
      refine lv_pop hx hb dX2_readRoad_118 rfl ?_
      rw [hQ]
      exact W.vret hx hb hr (fun t ht hW => ⟨⟨C_49, rfl, ⟨hT, hF, trivial⟩, ⟨by rw [ht]; exact hP, hD⟩⟩, hS.F ht⟩) hS.2.2 dX2_readRoad_119
  · refine lv_aload_n hx hb dX2_readRoad_27 rfl (lv_at hl 1 rfl) ?_
    refine va_get (D := D) (ci := 2) (v := .ref (a 5)) (C := RX2) (T := TX2) (N := 4) hx hb htg ig_2 hown hK hP 6 (oh_wg (by decide) (sX_6 hT)) rfl 0 (by decide) (htg _ q_245) (fun _ h9 => h9) rfl dX2_readRoad_28 ?_
    refine tm_Vv (As := []) (rest := []) ⟨hx, hb, hml, hown, htg⟩ (c_X4_fail l D E G _ a C_7 hT) (cwV 0 htg (oh_gV q_579 q_580 q_581 q_71 q_582) rfl rfl rfl pdVX4_fail ⟨Nat.le_of_ble_eq_true rfl, Nat.le_of_ble_eq_true rfl⟩) hK hP hD hG hS hA (va_recv hK hP (ci := 4) (q0 := 5) rfl (oh_wg (by decide) (sX_5 hT))) rfl hl.1 rfl (Nat.le_of_ble_eq_true rfl) dX2_readRoad_31 ⟨Nat.le_of_ble_eq_true rfl, Nat.le_of_ble_eq_true rfl⟩ (fun C_54 H locs hq_55 hP hD hS => ?_)
    obtain ⟨hT, f_56, hq_55⟩ := hq_55
    have hF := fr_tr hF f_56 (by decide) (by decide)
    refine W.widen (k := 0) (n := 0) (Nat.le_refl _) (Nat.le_refl _) ?_
    have t_57 := hT
    refine lv_aload_n hx hb dX2_readRoad_34 rfl (lv_at hl 1 rfl) ?_
    refine va_get (D := D) (ci := 2) (v := .ref (a 5)) (C := RX2) (T := TX2) (N := 4) hx hb htg ig_2 hown hK hP 6 (oh_wg (by decide) (sX_6 hT)) rfl 0 (by decide) (htg _ q_245) (fun _ h9 => h9) rfl dX2_readRoad_35 ?_
    refine lv_iconst (v := 0) hx hb dX2_readRoad_38 (by decide) ?_
    refine lv_bipush (v := 15) hx hb dX2_readRoad_39 (by decide) ?_
    refine tm_V (As := [.int 0, .int 15]) (rest := []) ⟨hx, hb, hml, hown, htg⟩ (c_X4_takeNumber l D E G _ a C_54 hT (0 : Int32) (15 : Int32)) (cwV 2 htg (oh_gV q_583 q_584 q_585 q_71 q_586) rfl rfl rfl pdVX4_takeNumber ⟨Nat.le_of_ble_eq_true rfl, Nat.le_of_ble_eq_true rfl⟩) hK hP hD hG hS hA (va_recv hK hP (ci := 4) (q0 := 5) rfl (oh_wg (by decide) (sX_5 hT))) rfl hl.1 rfl (Nat.le_of_ble_eq_true rfl) dX2_readRoad_41 ⟨Nat.le_of_ble_eq_true rfl, Nat.le_of_ble_eq_true rfl⟩ (fun r_58 C_59 H locs hq_60 hP hD hS => ?_)
    obtain ⟨hT, f_61, hq_60⟩ := hq_60
    have hF := fr_tr hF f_61 (by decide) (by decide)
    refine W.widen (k := 0) (n := 0) (Nat.le_refl _) (Nat.le_refl _) ?_
    have t_62 := hT
    refine lv_istore_n (lv' := [(2, .int r_58), (1, .int r_6), (0, .ref (a 6))]) hx hb dX2_readRoad_44 rfl hl (by decide) rfl (fun ls hl => ?_)
    refine lv_aload_n hx hb dX2_readRoad_45 rfl (lv_at hl 2 rfl) ?_
    refine va_ldcS hx hb hown (hG.2.2.1 ("OneHeavyLoad$Reader", 117, "miles", 4) (List.mem_of_getElem? (i := 1) rfl)) dX2_readRoad_46 ?_
    refine lv_iconst (v := 1) hx hb dX2_readRoad_48 (by decide) ?_
    refine lv_bipush (v := 60) hx hb dX2_readRoad_49 (by decide) ?_
    refine tm_V (As := [.ref (G (3 + 1)), .int 1, .int 60]) (rest := []) ⟨hx, hb, hml, hown, htg⟩ (c_X2_number l D E G _ a C_59 hT 1 (1 : Int32) (60 : Int32) (by decide)) (cwV 3 htg (oh_gV q_599 q_601 q_9 q_72 q_602) rfl rfl rfl pdVX2_number ⟨Nat.le_of_ble_eq_true rfl, Nat.le_of_ble_eq_true rfl⟩) hK hP hD hG hS hA (va_recv hK hP (ci := 2) (q0 := 6) rfl (oh_wg (by decide) (sX_6 hT))) rfl hl.1 rfl (Nat.le_of_ble_eq_true rfl) dX2_readRoad_51 ⟨Nat.le_of_ble_eq_true rfl, Nat.le_of_ble_eq_true rfl⟩ (fun r_63 C_64 H locs hq_65 hP hD hS => ?_)
    obtain ⟨hT, f_66, hq_65⟩ := hq_65
    have hF := fr_tr hF f_66 (by decide) (by decide)
    refine W.widen (k := 0) (n := 0) (Nat.le_refl _) (Nat.le_refl _) ?_
    have t_67 := hT
    refine lv_istore_n (lv' := [(3, .int r_63), (2, .int r_58), (1, .int r_6), (0, .ref (a 6))]) hx hb dX2_readRoad_54 rfl hl (by decide) rfl (fun ls hl => ?_)
    refine lv_aload_n hx hb dX2_readRoad_55 rfl (lv_at hl 3 rfl) ?_
    refine va_ldcS hx hb hown (hG.2.2.1 ("OneHeavyLoad$Reader", 123, "rise", 5) (List.mem_of_getElem? (i := 2) rfl)) dX2_readRoad_56 ?_
    refine lv_iconst (v := 0) hx hb dX2_readRoad_58 (by decide) ?_
    refine lv_bipush (v := 9) hx hb dX2_readRoad_59 (by decide) ?_
    refine lv_iconst (v := 0) hx hb dX2_readRoad_61 (by decide) ?_
    refine tm_V (As := [.ref (G (3 + 2)), .int 0, .int 9, .int 0]) (rest := []) ⟨hx, hb, hml, hown, htg⟩ (c_X2_numberIfTold l D E G _ a C_64 hT 2 (0 : Int32) (9 : Int32) (0 : Int32) (by decide)) (cwV 4 htg (oh_gV q_609 q_611 q_10 q_72 q_612) rfl rfl rfl pdVX2_numberIfTold ⟨Nat.le_of_ble_eq_true rfl, Nat.le_of_ble_eq_true rfl⟩) hK hP hD hG hS hA (va_recv hK hP (ci := 2) (q0 := 6) rfl (oh_wg (by decide) (sX_6 hT))) rfl hl.1 rfl (Nat.le_of_ble_eq_true rfl) dX2_readRoad_62 ⟨Nat.le_of_ble_eq_true rfl, Nat.le_of_ble_eq_true rfl⟩ (fun r_68 C_69 H locs hq_70 hP hD hS => ?_)
    obtain ⟨hT, f_71, hq_70⟩ := hq_70
    have hF := fr_tr hF f_71 (by decide) (by decide)
    refine W.widen (k := 0) (n := 0) (Nat.le_refl _) (Nat.le_refl _) ?_
    have t_72 := hT
    refine lv_istore (lv' := [(4, .int r_68), (3, .int r_63), (2, .int r_58), (1, .int r_6), (0, .ref (a 6))]) hx hb dX2_readRoad_65 hl (by decide) rfl (fun ls hl => ?_)
    refine lv_aload_n hx hb dX2_readRoad_67 rfl (lv_at hl 4 rfl) ?_
    refine va_ldcS hx hb hown (hG.2.2.1 ("OneHeavyLoad$Reader", 129, "turn", 6) (List.mem_of_getElem? (i := 3) rfl)) dX2_readRoad_68 ?_
    refine lv_iconst (v := 1) hx hb dX2_readRoad_70 (by decide) ?_
    refine lv_bipush (v := 99) hx hb dX2_readRoad_71 (by decide) ?_
    refine lv_bipush (v := 99) hx hb dX2_readRoad_73 (by decide) ?_
    refine tm_V (As := [.ref (G (3 + 3)), .int 1, .int 99, .int 99]) (rest := []) ⟨hx, hb, hml, hown, htg⟩ (c_X2_numberIfTold l D E G _ a C_69 hT 3 (1 : Int32) (99 : Int32) (99 : Int32) (by decide)) (cwV 4 htg (oh_gV q_609 q_611 q_10 q_72 q_612) rfl rfl rfl pdVX2_numberIfTold ⟨Nat.le_of_ble_eq_true rfl, Nat.le_of_ble_eq_true rfl⟩) hK hP hD hG hS hA (va_recv hK hP (ci := 2) (q0 := 6) rfl (oh_wg (by decide) (sX_6 hT))) rfl hl.1 rfl (Nat.le_of_ble_eq_true rfl) dX2_readRoad_75 ⟨Nat.le_of_ble_eq_true rfl, Nat.le_of_ble_eq_true rfl⟩ (fun r_73 C_74 H locs hq_75 hP hD hS => ?_)
    obtain ⟨hT, f_76, hq_75⟩ := hq_75
    have hF := fr_tr hF f_76 (by decide) (by decide)
    refine W.widen (k := 0) (n := 0) (Nat.le_refl _) (Nat.le_refl _) ?_
    have t_77 := hT
    refine lv_istore (lv' := [(5, .int r_73), (4, .int r_68), (3, .int r_63), (2, .int r_58), (1, .int r_6), (0, .ref (a 6))]) hx hb dX2_readRoad_78 hl (by decide) rfl (fun ls hl => ?_)
    refine lv_aload_n hx hb dX2_readRoad_80 rfl (lv_at hl 5 rfl) ?_
    refine va_ldcS hx hb hown (hG.2.2.1 ("OneHeavyLoad$Reader", 131, "parish", 7) (List.mem_of_getElem? (i := 4) rfl)) dX2_readRoad_81 ?_
    refine lv_iconst (v := 0) hx hb dX2_readRoad_83 (by decide) ?_
    refine lv_bipush (v := 15) hx hb dX2_readRoad_84 (by decide) ?_
    refine lv_iconst (v := 0) hx hb dX2_readRoad_86 (by decide) ?_
    refine tm_V (As := [.ref (G (3 + 4)), .int 0, .int 15, .int 0]) (rest := []) ⟨hx, hb, hml, hown, htg⟩ (c_X2_numberIfTold l D E G _ a C_74 hT 4 (0 : Int32) (15 : Int32) (0 : Int32) (by decide)) (cwV 4 htg (oh_gV q_609 q_611 q_10 q_72 q_612) rfl rfl rfl pdVX2_numberIfTold ⟨Nat.le_of_ble_eq_true rfl, Nat.le_of_ble_eq_true rfl⟩) hK hP hD hG hS hA (va_recv hK hP (ci := 2) (q0 := 6) rfl (oh_wg (by decide) (sX_6 hT))) rfl hl.1 rfl (Nat.le_of_ble_eq_true rfl) dX2_readRoad_87 ⟨Nat.le_of_ble_eq_true rfl, Nat.le_of_ble_eq_true rfl⟩ (fun r_78 C_79 H locs hq_80 hP hD hS => ?_)
    obtain ⟨hT, f_81, hq_80⟩ := hq_80
    have hF := fr_tr hF f_81 (by decide) (by decide)
    refine W.widen (k := 0) (n := 0) (Nat.le_refl _) (Nat.le_refl _) ?_
    have t_82 := hT
    refine lv_istore (lv' := [(6, .int r_78), (5, .int r_73), (4, .int r_68), (3, .int r_63), (2, .int r_58), (1, .int r_6), (0, .ref (a 6))]) hx hb dX2_readRoad_90 hl (by decide) rfl (fun ls hl => ?_)
    refine lv_aload_n hx hb dX2_readRoad_92 rfl (lv_at hl 6 rfl) ?_
    refine va_get (D := D) (ci := 2) (v := .ref (a 5)) (C := RX2) (T := TX2) (N := 4) hx hb htg ig_2 hown hK hP 6 (oh_wg (by decide) (sX_6 hT)) rfl 0 (by decide) (htg _ q_245) (fun _ h9 => h9) rfl dX2_readRoad_93 ?_
    refine tq_V (As := []) (rest := []) (ws := (oh_W 35 a C_79)) ⟨hx, hb, hml, hown, htg⟩ (c_X4_isSound l D E G a C_79 hT) (cwV 0 htg (oh_gV q_619 q_592 q_593 q_71 q_594) rfl rfl rfl pdVX4_isSound ⟨Nat.le_of_ble_eq_true rfl, Nat.le_of_ble_eq_true rfl⟩) hK hP hG hS (va_recv hK hP (ci := 4) (q0 := 5) rfl (oh_wg (by decide) (sX_5 hT))) rfl hl.1 rfl (Nat.le_of_ble_eq_true rfl) dX2_readRoad_96 ⟨Nat.le_of_ble_eq_true rfl, Nat.le_of_ble_eq_true rfl⟩ (fun r_83 hq_84 => ?_)
    refine lv_if_eq (tgt := 119) hx hb dX2_readRoad_99 (by decide) (fun (c_85 : r_83 = 0) => ?_) (fun (c_85 : ¬ (r_83 = 0)) => ?_)
    · rw [hQ]
      exact W.vret hx hb hr (fun t ht hW => ⟨⟨C_79, rfl, ⟨hT, hF, trivial⟩, ⟨by rw [ht]; exact hP, hD⟩⟩, hS.F ht⟩) hS.2.2 dX2_readRoad_119
    · have u_86 := hq_84.2 c_85
      have s_87 := u_86
      have s_88 := hq_65.2 (hq_70 (hq_75 (hq_80 s_87)))
      have s_89 := hq_60.2 (hq_65.1 (hq_70 (hq_75 (hq_80 s_87))))
      have s_90 := hq_8.2 ((fun h7 => absurd h7 (oh_nfl hq_55)) (hq_60.1 (hq_65.1 (hq_70 (hq_75 (hq_80 s_87))))))
      have s_91 : ga (C 10) ((0 : Int32)).toNatClampNeg < (24 : Int32) := hq_3.2 (hq_8.1 ((fun h7 => absurd h7 (oh_nfl hq_55)) (hq_60.1 (hq_65.1 (hq_70 (hq_75 (hq_80 s_87)))))))
      refine lv_aload_n hx hb dX2_readRoad_102 rfl (lv_at hl 6 rfl) ?_
      refine va_get (D := D) (ci := 2) (v := .ref (a 1)) (C := RX2) (T := TX2) (N := 4) hx hb htg ig_2 hown hK hP 6 (oh_wg (by decide) (sX_6 hT)) rfl 1 (by decide) (htg _ q_246) (fun _ h9 => h9) rfl dX2_readRoad_103 ?_
      refine lv_iload_n hx hb dX2_readRoad_106 rfl (lv_at hl 5 rfl) ?_
      refine lv_iload_n hx hb dX2_readRoad_107 rfl (lv_at hl 4 rfl) ?_
      refine lv_iload_n hx hb dX2_readRoad_108 rfl (lv_at hl 3 rfl) ?_
      refine lv_iload hx hb dX2_readRoad_109 (lv_at hl 2 rfl) ?_
      refine lv_iload hx hb dX2_readRoad_111 (lv_at hl 1 rfl) ?_
      refine lv_iload hx hb dX2_readRoad_113 (lv_at hl 0 rfl) ?_
      refine tm_V (As := [.int r_6, .int r_58, .int r_63, .int r_68, .int r_73, .int r_78]) (rest := []) ⟨hx, hb, hml, hown, htg⟩ (c_X0_addRoad l D E G _ a C_79 hT r_6 r_58 r_63 r_68 r_73 r_78 (rg_w (rn_leu s_90.2 (rn_lel s_90.1 (rg_c (v := 0) (lo := 0) (hi := 0) (by decide)) (rn_eq c_13.symm (rg_any _))) (rg_c (v := 15) (lo := 15) (hi := 15) (by decide))) (by decide)) (rg_w (rn_leu s_89.2 (rn_lel s_89.1 (rg_c (v := 0) (lo := 0) (hi := 0) (by decide)) (rg_any _)) (rg_c (v := 15) (lo := 15) (hi := 15) (by decide))) (by decide)) (oh_rgA (Eq.trans (f_81.1 10 rfl (by decide)) (Eq.trans (f_76.1 10 rfl (by decide)) (Eq.trans (f_71.1 10 rfl (by decide)) (Eq.trans (f_66.1 10 rfl (by decide)) (Eq.trans (f_61.1 10 rfl (by decide)) (Eq.trans (f_56.1 10 rfl (by decide)) (Eq.trans (f_9.1 10 rfl (by decide)) (f_4.1 10 rfl (by decide))))))))) (rg_w (lo := 0) (hi := 23) (rn_ltu (u' := 23) s_91 (tA_rdc (lo := 0) (hi := 24) (tX_10 hT0) (rg_in (rg_c (v := 0) (lo := 0) (hi := 0) (by decide)) (by decide)) (show _ = 0 by decide) (by decide)) (rg_c (v := 24) (lo := 24) (hi := 24) (by decide)) (by decide)) (by decide)))) (cwV 6 htg (oh_gV q_620 q_421 q_422 q_67 q_423) rfl rfl rfl pdVX0_addRoad ⟨Nat.le_of_ble_eq_true rfl, Nat.le_of_ble_eq_true rfl⟩) hK hP hD hG hS hA (va_recv hK hP (ci := 0) (q0 := 1) rfl (oh_wg (by decide) (sX_1 hT))) rfl hl.1 rfl (Nat.le_of_ble_eq_true rfl) dX2_readRoad_115 ⟨Nat.le_of_ble_eq_true rfl, Nat.le_of_ble_eq_true rfl⟩ (fun r_92 C_93 H locs hq_94 hP hD hS => ?_)
      obtain ⟨hT, f_95, hq_94⟩ := hq_94
      have hF := fr_tr hF f_95 (by decide) (by decide)
      refine W.widen (k := 0) (n := 0) (Nat.le_refl _) (Nat.le_refl _) ?_
      have t_96 := hT
      refine lv_pop hx hb dX2_readRoad_118 rfl ?_
      rw [hQ]
      exact W.vret hx hb hr (fun t ht hW => ⟨⟨C_93, rfl, ⟨hT, hF, trivial⟩, ⟨by rw [ht]; exact hP, hD⟩⟩, hS.F ht⟩) hS.2.2 dX2_readRoad_119

set_option maxHeartbeats 4000000 in
set_option maxRecDepth 100000 in
theorem c_X2_readBridge (l : Launch) (D : va_G) (E : Nat → ClassId) (G : Nat → Nat) (sz : Nat) (a : Nat → Nat) (C : Nat → va_E) (hT : TyX a E C) : Met l yX2_readBridge (oh_w yX2_readBridge cX2_readBridge 8 none) ({ frames := 7, cells := 0, slots := 0, locals := 151 }) (oh_Pm D E G [.ref (a 6)] (oh_W 35 a C) sz) (va_Qv (fun (u : Nat → va_E) => TyX a E u ∧ fr [(5, 6), (10, 11), (12, 13)] [] C u ∧ True) (oh_B D (va_A (oh_W 35 a C) sz) (fun u => oh_W 35 a u)) (va_A (oh_W 35 a C) sz)) 0 0 (va_A (oh_W 35 a C) sz) := by
  refine Met.ofW (cc := cX2_readBridge) (maxL := 8) (ret := none) (by decide) rfl ?_
  intro p e s m args below meth c s₁ B hml hv
  obtain ⟨rfl, hsz, hP, hK, hD0, hG⟩ := hv
  have hx := B.exec
  have hb := B.bytes
  have hr := B.returns
  have hts := atoms_spec (ws := (oh_w yX2_readBridge cX2_readBridge 8 none)) B.pre
  have htg : ∀ w ∈ oh_t, w.before _ s = true := fun w h => hts w (List.mem_cons_of_mem _ h)
  have hown : s.vm.findClass RX2 = some m.cls := findClass_of_methodNamed B.named
  have hlocks := B.notSynchronized
  have hT0 := hT
  subst hsz
  have hD := hD0.self (sz := s.heap.size)
  generalize hAe : va_A (oh_W 35 a C) s.heap.size = A at hD hG ⊢
  have hA : ∀ q : Nat, s.heap.size ≤ q → A q := fun q h => by rw [← hAe]; exact Or.inr h
  have hS : va_S A s.heap s.heap [] := va_S.rf
  have hF : fr [(5, 6), (10, 11), (12, 13)] [] C C := fr_rf
  have hl := lv_entry ([.ref (a 6)]) (n := 8) (Nat.le_of_ble_eq_true rfl)
  rw [lg_entry_eq]
  generalize (lg_sl ([.ref (a 6)]) ++ List.replicate (8 - (lg_sl ([.ref (a 6)])).length) Slot.unset).toArray = ls at hl ⊢
  have hl : lv_has ls 8 [(0, .ref (a 6))] := hl
  refine oh_genQ (fun Q hQ => ?_)
  refine lv_aload_n hx hb dX2_readBridge_0 rfl (lv_at hl 0 rfl) ?_
  refine lv_iconst (v := 1) hx hb dX2_readBridge_1 (by decide) ?_
  refine tm_Vv (As := [.int 1]) (rest := []) ⟨hx, hb, hml, hown, htg⟩ (c_X2_enter l D E G _ a C hT (1 : Int32) (rg_w (rg_c (v := 1) (lo := 1) (hi := 1) (by decide)) (by decide))) (cwV 1 htg (oh_gV q_573 q_575 q_8 q_72 q_576) rfl rfl rfl pdVX2_enter ⟨Nat.le_of_ble_eq_true rfl, Nat.le_of_ble_eq_true rfl⟩) hK hP hD hG hS hA (va_recv hK hP (ci := 2) (q0 := 6) rfl (oh_wg (by decide) (sX_6 hT))) rfl hl.1 rfl (Nat.le_of_ble_eq_true rfl) dX2_readBridge_2 ⟨Nat.le_of_ble_eq_true rfl, Nat.le_of_ble_eq_true rfl⟩ (fun C_2 H locs hq_3 hP hD hS => ?_)
  obtain ⟨hT, f_4, hq_3⟩ := hq_3
  have hF := fr_tr hF f_4 (by decide) (by decide)
  refine W.widen (k := 0) (n := 0) (Nat.le_refl _) (Nat.le_refl _) ?_
  have t_5 := hT
  refine lv_aload_n hx hb dX2_readBridge_5 rfl (lv_at hl 0 rfl) ?_
  refine va_get (D := D) (ci := 2) (v := .ref (a 5)) (C := RX2) (T := TX2) (N := 4) hx hb htg ig_2 hown hK hP 6 (oh_wg (by decide) (sX_6 hT)) rfl 0 (by decide) (htg _ q_245) (fun _ h9 => h9) rfl dX2_readBridge_6 ?_
  refine lv_iconst (v := 0) hx hb dX2_readBridge_9 (by decide) ?_
  refine lv_aload_n hx hb dX2_readBridge_10 rfl (lv_at hl 0 rfl) ?_
  refine va_get (D := D) (ci := 2) (v := .ref (a 1)) (C := RX2) (T := TX2) (N := 4) hx hb htg ig_2 hown hK hP 6 (oh_wg (by decide) (sX_6 hT)) rfl 1 (by decide) (htg _ q_246) (fun _ h9 => h9) rfl dX2_readBridge_11 ?_
  refine va_get (D := D) (ci := 0) (v := .ref (a 10)) (C := RX0) (T := TX0) (N := 8) hx hb htg ig_0 hown hK hP 1 (oh_wg (by decide) (sX_1 hT)) rfl 0 (by decide) (htg _ q_98) (fun _ h9 => h9) rfl dX2_readBridge_14 ?_
  refine lv_iconst (v := 0) hx hb dX2_readBridge_17 (by decide) ?_
  refine th_iald hx hb hK hP 10 (by decide) (Eq.trans (f_4.1 10 rfl (by decide)) (sX_10 hT0)) (rg_in (rg_c (v := 0) (lo := 0) (hi := 0) (by decide)) (by decide)) dX2_readBridge_18 ?_
  refine lv_iconst (v := 1) hx hb dX2_readBridge_19 (by decide) ?_
  refine lv_isub hx hb dX2_readBridge_20 ?_
  refine tm_V (As := [.int 0, .int ((ga (C 10) ((0 : Int32)).toNatClampNeg) - 1)]) (rest := []) ⟨hx, hb, hml, hown, htg⟩ (c_X4_takeNumber l D E G _ a C_2 hT (0 : Int32) ((ga (C 10) ((0 : Int32)).toNatClampNeg) - 1)) (cwV 2 htg (oh_gV q_583 q_584 q_585 q_71 q_586) rfl rfl rfl pdVX4_takeNumber ⟨Nat.le_of_ble_eq_true rfl, Nat.le_of_ble_eq_true rfl⟩) hK hP hD hG hS hA (va_recv hK hP (ci := 4) (q0 := 5) rfl (oh_wg (by decide) (sX_5 hT))) rfl hl.1 rfl (Nat.le_of_ble_eq_true rfl) dX2_readBridge_21 ⟨Nat.le_of_ble_eq_true rfl, Nat.le_of_ble_eq_true rfl⟩ (fun r_6 C_7 H locs hq_8 hP hD hS => ?_)
  obtain ⟨hT, f_9, hq_8⟩ := hq_8
  have hF := fr_tr hF f_9 (by decide) (by decide)
  refine W.widen (k := 0) (n := 0) (Nat.le_refl _) (Nat.le_refl _) ?_
  have t_10 := hT
  refine lv_istore_n (lv' := [(1, .int r_6), (0, .ref (a 6))]) hx hb dX2_readBridge_24 rfl hl (by decide) rfl (fun ls hl => ?_)
  refine lv_aload_n hx hb dX2_readBridge_25 rfl (lv_at hl 1 rfl) ?_
  refine va_ldcS hx hb hown (hG.2.2.1 ("OneHeavyLoad$Reader", 137, "kind", 9) (List.mem_of_getElem? (i := 6) rfl)) dX2_readBridge_26 ?_
  refine lv_iconst (v := 0) hx hb dX2_readBridge_28 (by decide) ?_
  refine lv_iconst (v := 5) hx hb dX2_readBridge_29 (by decide) ?_
  refine tm_V (As := [.ref (G (3 + 6)), .int 0, .int 5]) (rest := []) ⟨hx, hb, hml, hown, htg⟩ (c_X2_number l D E G _ a C_7 hT 6 (0 : Int32) (5 : Int32) (by decide)) (cwV 3 htg (oh_gV q_599 q_601 q_9 q_72 q_602) rfl rfl rfl pdVX2_number ⟨Nat.le_of_ble_eq_true rfl, Nat.le_of_ble_eq_true rfl⟩) hK hP hD hG hS hA (va_recv hK hP (ci := 2) (q0 := 6) rfl (oh_wg (by decide) (sX_6 hT))) rfl hl.1 rfl (Nat.le_of_ble_eq_true rfl) dX2_readBridge_30 ⟨Nat.le_of_ble_eq_true rfl, Nat.le_of_ble_eq_true rfl⟩ (fun r_11 C_12 H locs hq_13 hP hD hS => ?_)
  obtain ⟨hT, f_14, hq_13⟩ := hq_13
  have hF := fr_tr hF f_14 (by decide) (by decide)
  refine W.widen (k := 0) (n := 0) (Nat.le_refl _) (Nat.le_refl _) ?_
  have t_15 := hT
  refine lv_istore_n (lv' := [(2, .int r_11), (1, .int r_6), (0, .ref (a 6))]) hx hb dX2_readBridge_33 rfl hl (by decide) rfl (fun ls hl => ?_)
  refine lv_aload_n hx hb dX2_readBridge_34 rfl (lv_at hl 2 rfl) ?_
  refine va_ldcS hx hb hown (hG.2.2.1 ("OneHeavyLoad$Reader", 139, "span", 10) (List.mem_of_getElem? (i := 7) rfl)) dX2_readBridge_35 ?_
  refine lv_iconst (v := 0) hx hb dX2_readBridge_37 (by decide) ?_
  refine lv_bipush (v := 60) hx hb dX2_readBridge_38 (by decide) ?_
  refine tm_V (As := [.ref (G (3 + 7)), .int 0, .int 60]) (rest := []) ⟨hx, hb, hml, hown, htg⟩ (c_X2_number l D E G _ a C_12 hT 7 (0 : Int32) (60 : Int32) (by decide)) (cwV 3 htg (oh_gV q_599 q_601 q_9 q_72 q_602) rfl rfl rfl pdVX2_number ⟨Nat.le_of_ble_eq_true rfl, Nat.le_of_ble_eq_true rfl⟩) hK hP hD hG hS hA (va_recv hK hP (ci := 2) (q0 := 6) rfl (oh_wg (by decide) (sX_6 hT))) rfl hl.1 rfl (Nat.le_of_ble_eq_true rfl) dX2_readBridge_40 ⟨Nat.le_of_ble_eq_true rfl, Nat.le_of_ble_eq_true rfl⟩ (fun r_16 C_17 H locs hq_18 hP hD hS => ?_)
  obtain ⟨hT, f_19, hq_18⟩ := hq_18
  have hF := fr_tr hF f_19 (by decide) (by decide)
  refine W.widen (k := 0) (n := 0) (Nat.le_refl _) (Nat.le_refl _) ?_
  have t_20 := hT
  refine lv_istore_n (lv' := [(3, .int r_16), (2, .int r_11), (1, .int r_6), (0, .ref (a 6))]) hx hb dX2_readBridge_43 rfl hl (by decide) rfl (fun ls hl => ?_)
  refine lv_aload_n hx hb dX2_readBridge_44 rfl (lv_at hl 3 rfl) ?_
  refine va_ldcS hx hb hown (hG.2.2.1 ("OneHeavyLoad$Reader", 141, "axle", 11) (List.mem_of_getElem? (i := 8) rfl)) dX2_readBridge_45 ?_
  refine lv_iconst (v := 1) hx hb dX2_readBridge_47 (by decide) ?_
  refine lv_bipush (v := 99) hx hb dX2_readBridge_48 (by decide) ?_
  refine tm_V (As := [.ref (G (3 + 8)), .int 1, .int 99]) (rest := []) ⟨hx, hb, hml, hown, htg⟩ (c_X2_number l D E G _ a C_17 hT 8 (1 : Int32) (99 : Int32) (by decide)) (cwV 3 htg (oh_gV q_599 q_601 q_9 q_72 q_602) rfl rfl rfl pdVX2_number ⟨Nat.le_of_ble_eq_true rfl, Nat.le_of_ble_eq_true rfl⟩) hK hP hD hG hS hA (va_recv hK hP (ci := 2) (q0 := 6) rfl (oh_wg (by decide) (sX_6 hT))) rfl hl.1 rfl (Nat.le_of_ble_eq_true rfl) dX2_readBridge_50 ⟨Nat.le_of_ble_eq_true rfl, Nat.le_of_ble_eq_true rfl⟩ (fun r_21 C_22 H locs hq_23 hP hD hS => ?_)
  obtain ⟨hT, f_24, hq_23⟩ := hq_23
  have hF := fr_tr hF f_24 (by decide) (by decide)
  refine W.widen (k := 0) (n := 0) (Nat.le_refl _) (Nat.le_refl _) ?_
  have t_25 := hT
  refine lv_istore (lv' := [(4, .int r_21), (3, .int r_16), (2, .int r_11), (1, .int r_6), (0, .ref (a 6))]) hx hb dX2_readBridge_53 hl (by decide) rfl (fun ls hl => ?_)
  refine lv_aload_n hx hb dX2_readBridge_55 rfl (lv_at hl 4 rfl) ?_
  refine va_ldcS hx hb hown (hG.2.2.1 ("OneHeavyLoad$Reader", 143, "all", 12) (List.mem_of_getElem? (i := 9) rfl)) dX2_readBridge_56 ?_
  refine lv_iconst (v := 1) hx hb dX2_readBridge_58 (by decide) ?_
  refine lv_sipush (v := 999) hx hb dX2_readBridge_59 (by decide) ?_
  refine tm_V (As := [.ref (G (3 + 9)), .int 1, .int 999]) (rest := []) ⟨hx, hb, hml, hown, htg⟩ (c_X2_number l D E G _ a C_22 hT 9 (1 : Int32) (999 : Int32) (by decide)) (cwV 3 htg (oh_gV q_599 q_601 q_9 q_72 q_602) rfl rfl rfl pdVX2_number ⟨Nat.le_of_ble_eq_true rfl, Nat.le_of_ble_eq_true rfl⟩) hK hP hD hG hS hA (va_recv hK hP (ci := 2) (q0 := 6) rfl (oh_wg (by decide) (sX_6 hT))) rfl hl.1 rfl (Nat.le_of_ble_eq_true rfl) dX2_readBridge_62 ⟨Nat.le_of_ble_eq_true rfl, Nat.le_of_ble_eq_true rfl⟩ (fun r_26 C_27 H locs hq_28 hP hD hS => ?_)
  obtain ⟨hT, f_29, hq_28⟩ := hq_28
  have hF := fr_tr hF f_29 (by decide) (by decide)
  refine W.widen (k := 0) (n := 0) (Nat.le_refl _) (Nat.le_refl _) ?_
  have t_30 := hT
  refine lv_istore (lv' := [(5, .int r_26), (4, .int r_21), (3, .int r_16), (2, .int r_11), (1, .int r_6), (0, .ref (a 6))]) hx hb dX2_readBridge_65 hl (by decide) rfl (fun ls hl => ?_)
  refine lv_iconst (v := 0) hx hb dX2_readBridge_67 (by decide) ?_
  refine lv_istore (lv' := [(6, .int 0), (5, .int r_26), (4, .int r_21), (3, .int r_16), (2, .int r_11), (1, .int r_6), (0, .ref (a 6))]) hx hb dX2_readBridge_68 hl (by decide) rfl (fun ls hl => ?_)
  refine lv_iconst (v := 0) hx hb dX2_readBridge_70 (by decide) ?_
  refine lv_istore (lv' := [(7, .int 0), (6, .int 0), (5, .int r_26), (4, .int r_21), (3, .int r_16), (2, .int r_11), (1, .int r_6), (0, .ref (a 6))]) hx hb dX2_readBridge_71 hl (by decide) rfl (fun ls hl => ?_)
  refine lv_aload_n hx hb dX2_readBridge_73 rfl (lv_at hl 7 rfl) ?_
  refine va_get (D := D) (ci := 2) (v := .ref (a 5)) (C := RX2) (T := TX2) (N := 4) hx hb htg ig_2 hown hK hP 6 (oh_wg (by decide) (sX_6 hT)) rfl 0 (by decide) (htg _ q_245) (fun _ h9 => h9) rfl dX2_readBridge_74 ?_
  refine va_ldcS hx hb hown (hG.2.2.1 ("OneHeavyLoad$Reader", 145, "prop", 13) (List.mem_of_getElem? (i := 10) rfl)) dX2_readBridge_77 ?_
  refine tm_V (As := [.ref (G (3 + 10))]) (rest := []) ⟨hx, hb, hml, hown, htg⟩ (c_X4_takeWordIfThere l D E G _ a C_27 hT 10 (by decide)) (cwV 1 htg (oh_gV q_613 q_614 q_615 q_71 q_616) rfl rfl rfl pdVX4_takeWordIfThere ⟨Nat.le_of_ble_eq_true rfl, Nat.le_of_ble_eq_true rfl⟩) hK hP hD hG hS hA (va_recv hK hP (ci := 4) (q0 := 5) rfl (oh_wg (by decide) (sX_5 hT))) rfl hl.1 rfl (Nat.le_of_ble_eq_true rfl) dX2_readBridge_79 ⟨Nat.le_of_ble_eq_true rfl, Nat.le_of_ble_eq_true rfl⟩ (fun r_31 C_32 H locs hq_33 hP hD hS => ?_)
  obtain ⟨hT, f_34, hq_33⟩ := hq_33
  have hF := fr_tr hF f_34 (by decide) (by decide)
  refine W.widen (k := 0) (n := 0) (Nat.le_refl _) (Nat.le_refl _) ?_
  have t_35 := hT
  refine lv_if_eq (tgt := 111) hx hb dX2_readBridge_82 (by decide) (fun (c_36 : r_31 = 0) => ?_) (fun (c_36 : ¬ (r_31 = 0)) => ?_)
  · refine lv_aload_n hx hb dX2_readBridge_111 rfl (lv_at hl 7 rfl) ?_
    refine va_get (D := D) (ci := 2) (v := .ref (a 5)) (C := RX2) (T := TX2) (N := 4) hx hb htg ig_2 hown hK hP 6 (oh_wg (by decide) (sX_6 hT)) rfl 0 (by decide) (htg _ q_245) (fun _ h9 => h9) rfl dX2_readBridge_112 ?_
    refine tq_V (As := []) (rest := []) (ws := (oh_W 35 a C_32)) ⟨hx, hb, hml, hown, htg⟩ (c_X4_isSound l D E G a C_32 hT) (cwV 0 htg (oh_gV q_619 q_592 q_593 q_71 q_594) rfl rfl rfl pdVX4_isSound ⟨Nat.le_of_ble_eq_true rfl, Nat.le_of_ble_eq_true rfl⟩) hK hP hG hS (va_recv hK hP (ci := 4) (q0 := 5) rfl (oh_wg (by decide) (sX_5 hT))) rfl hl.1 rfl (Nat.le_of_ble_eq_true rfl) dX2_readBridge_115 ⟨Nat.le_of_ble_eq_true rfl, Nat.le_of_ble_eq_true rfl⟩ (fun r_37 hq_38 => ?_)
    refine lv_if_eq (tgt := 146) hx hb dX2_readBridge_118 (by decide) (fun (c_39 : r_37 = 0) => ?_) (fun (c_39 : ¬ (r_37 = 0)) => ?_)
    · rw [hQ]
      exact W.vret hx hb hr (fun t ht hW => ⟨⟨C_32, rfl, ⟨hT, hF, trivial⟩, ⟨by rw [ht]; exact hP, hD⟩⟩, hS.F ht⟩) hS.2.2 dX2_readBridge_146
    · have u_40 := hq_38.2 c_39
      have s_41 := u_40
      have s_42 := hq_28.2 (hq_33.2 s_41)
      have s_43 := hq_23.2 (hq_28.1 (hq_33.2 s_41))
      have s_44 := hq_18.2 (hq_23.1 (hq_28.1 (hq_33.2 s_41)))
      have s_45 := hq_13.2 (hq_18.1 (hq_23.1 (hq_28.1 (hq_33.2 s_41))))
      have s_46 := hq_8.2 (hq_13.1 (hq_18.1 (hq_23.1 (hq_28.1 (hq_33.2 s_41)))))
      have s_47 : ga (C 10) ((1 : Int32)).toNatClampNeg < (16 : Int32) := hq_3.2 (hq_8.1 (hq_13.1 (hq_18.1 (hq_23.1 (hq_28.1 (hq_33.2 s_41))))))
      refine lv_aload_n hx hb dX2_readBridge_121 rfl (lv_at hl 7 rfl) ?_
      refine va_get (D := D) (ci := 2) (v := .ref (a 1)) (C := RX2) (T := TX2) (N := 4) hx hb htg ig_2 hown hK hP 6 (oh_wg (by decide) (sX_6 hT)) rfl 1 (by decide) (htg _ q_246) (fun _ h9 => h9) rfl dX2_readBridge_122 ?_
      refine lv_aload_n hx hb dX2_readBridge_125 rfl (lv_at hl 7 rfl) ?_
      refine va_get (D := D) (ci := 2) (v := .ref (a 1)) (C := RX2) (T := TX2) (N := 4) hx hb htg ig_2 hown hK hP 6 (oh_wg (by decide) (sX_6 hT)) rfl 1 (by decide) (htg _ q_246) (fun _ h9 => h9) rfl dX2_readBridge_126 ?_
      refine lv_iload_n hx hb dX2_readBridge_129 rfl (lv_at hl 6 rfl) ?_
      refine lv_iload_n hx hb dX2_readBridge_130 rfl (lv_at hl 5 rfl) ?_
      refine lv_iload_n hx hb dX2_readBridge_131 rfl (lv_at hl 4 rfl) ?_
      refine lv_iload hx hb dX2_readBridge_132 (lv_at hl 3 rfl) ?_
      refine lv_iload hx hb dX2_readBridge_134 (lv_at hl 2 rfl) ?_
      refine tm_V (As := [.int r_6, .int r_11, .int r_16, .int r_21, .int r_26]) (rest := [.ref (a 1)]) ⟨hx, hb, hml, hown, htg⟩ (c_X0_addBridge l D E G _ a C_32 hT r_6 r_11 r_16 r_21 r_26 (rg_w (rn_leu s_46.2 (rn_lel s_46.1 (rg_c (v := 0) (lo := 0) (hi := 0) (by decide)) (rg_any _)) (rg_sub (lo := (-1)) (hi := 23) (tA_rdc (lo := 0) (hi := 24) (tX_10 hT0) (rg_in (rg_c (v := 0) (lo := 0) (hi := 0) (by decide)) (by decide)) (show _ = 0 by decide) (by decide)) (rg_c (v := 1) (lo := 1) (hi := 1) (by decide)) (by decide))) (by decide)) (rg_w (rn_leu s_45.2 (rn_lel s_45.1 (rg_c (v := 0) (lo := 0) (hi := 0) (by decide)) (rg_any _)) (rg_c (v := 5) (lo := 5) (hi := 5) (by decide))) (by decide)) (oh_rgA (Eq.trans (f_34.1 10 rfl (by decide)) (Eq.trans (f_29.1 10 rfl (by decide)) (Eq.trans (f_24.1 10 rfl (by decide)) (Eq.trans (f_19.1 10 rfl (by decide)) (Eq.trans (f_14.1 10 rfl (by decide)) (Eq.trans (f_9.1 10 rfl (by decide)) (f_4.1 10 rfl (by decide)))))))) (rg_w (lo := 0) (hi := 15) (rn_ltu (u' := 15) s_47 (tA_rdc (lo := 0) (hi := 16) (tX_10 hT0) (rg_in (rg_c (v := 1) (lo := 1) (hi := 1) (by decide)) (by decide)) (show _ = 1 by decide) (by decide)) (rg_c (v := 16) (lo := 16) (hi := 16) (by decide)) (by decide)) (by decide)))) (cwV 5 htg (oh_gV q_631 q_433 q_434 q_67 q_435) rfl rfl rfl pdVX0_addBridge ⟨Nat.le_of_ble_eq_true rfl, Nat.le_of_ble_eq_true rfl⟩) hK hP hD hG hS hA (va_recv hK hP (ci := 0) (q0 := 1) rfl (oh_wg (by decide) (sX_1 hT))) rfl hl.1 rfl (Nat.le_of_ble_eq_true rfl) dX2_readBridge_136 ⟨Nat.le_of_ble_eq_true rfl, Nat.le_of_ble_eq_true rfl⟩ (fun r_48 C_49 H locs hq_50 hP hD hS => ?_)
      obtain ⟨hT, f_51, hq_50⟩ := hq_50
      have hF := fr_tr hF f_51 (by decide) (by decide)
      refine W.widen (k := 0) (n := 0) (Nat.le_refl _) (Nat.le_refl _) ?_
      have t_52 := hT
      refine lv_iload hx hb dX2_readBridge_139 (lv_at hl 1 rfl) ?_
      refine lv_iload hx hb dX2_readBridge_141 (lv_at hl 0 rfl) ?_
      refine tm_Vv (As := [.int r_48, .int 0, .int 0]) (rest := []) ⟨hx, hb, hml, hown, htg⟩ (c_X0_putProp l D E G _ a C_49 hT r_48 (0 : Int32) (0 : Int32) (rg_w hq_50 (by decide))) (cwV 3 htg (oh_gV q_632 q_441 q_442 q_67 q_443) rfl rfl rfl pdVX0_putProp ⟨Nat.le_of_ble_eq_true rfl, Nat.le_of_ble_eq_true rfl⟩) hK hP hD hG hS hA (va_recv hK hP (ci := 0) (q0 := 1) rfl (oh_wg (by decide) (sX_1 hT))) rfl hl.1 rfl (Nat.le_of_ble_eq_true rfl) dX2_readBridge_143 ⟨Nat.le_of_ble_eq_true rfl, Nat.le_of_ble_eq_true rfl⟩ (fun C_54 H locs hq_55 hP hD hS => ?_)
      obtain ⟨hT, f_56, hq_55⟩ := hq_55
      have hF := fr_tr hF f_56 (by decide) (by decide)
      refine W.widen (k := 0) (n := 0) (Nat.le_refl _) (Nat.le_refl _) ?_
      have t_57 := hT
      rw [hQ]
      exact W.vret hx hb hr (fun t ht hW => ⟨⟨C_54, rfl, ⟨hT, hF, trivial⟩, ⟨by rw [ht]; exact hP, hD⟩⟩, hS.F ht⟩) hS.2.2 dX2_readBridge_146
  · refine lv_aload_n hx hb dX2_readBridge_85 rfl (lv_at hl 7 rfl) ?_
    refine va_get (D := D) (ci := 2) (v := .ref (a 5)) (C := RX2) (T := TX2) (N := 4) hx hb htg ig_2 hown hK hP 6 (oh_wg (by decide) (sX_6 hT)) rfl 0 (by decide) (htg _ q_245) (fun _ h9 => h9) rfl dX2_readBridge_86 ?_
    refine lv_iconst (v := 0) hx hb dX2_readBridge_89 (by decide) ?_
    refine lv_sipush (v := 999) hx hb dX2_readBridge_90 (by decide) ?_
    refine tm_V (As := [.int 0, .int 999]) (rest := []) ⟨hx, hb, hml, hown, htg⟩ (c_X4_takeNumber l D E G _ a C_32 hT (0 : Int32) (999 : Int32)) (cwV 2 htg (oh_gV q_583 q_584 q_585 q_71 q_586) rfl rfl rfl pdVX4_takeNumber ⟨Nat.le_of_ble_eq_true rfl, Nat.le_of_ble_eq_true rfl⟩) hK hP hD hG hS hA (va_recv hK hP (ci := 4) (q0 := 5) rfl (oh_wg (by decide) (sX_5 hT))) rfl hl.1 rfl (Nat.le_of_ble_eq_true rfl) dX2_readBridge_93 ⟨Nat.le_of_ble_eq_true rfl, Nat.le_of_ble_eq_true rfl⟩ (fun r_58 C_59 H locs hq_60 hP hD hS => ?_)
    obtain ⟨hT, f_61, hq_60⟩ := hq_60
    have hF := fr_tr hF f_61 (by decide) (by decide)
    refine W.widen (k := 0) (n := 0) (Nat.le_refl _) (Nat.le_refl _) ?_
    have t_62 := hT
    refine lv_istore (lv' := [(6, .int r_58), (7, .int 0), (5, .int r_26), (4, .int r_21), (3, .int r_16), (2, .int r_11), (1, .int r_6), (0, .ref (a 6))]) hx hb dX2_readBridge_96 hl (by decide) rfl (fun ls hl => ?_)
    refine lv_aload_n hx hb dX2_readBridge_98 rfl (lv_at hl 7 rfl) ?_
    refine va_get (D := D) (ci := 2) (v := .ref (a 5)) (C := RX2) (T := TX2) (N := 4) hx hb htg ig_2 hown hK hP 6 (oh_wg (by decide) (sX_6 hT)) rfl 0 (by decide) (htg _ q_245) (fun _ h9 => h9) rfl dX2_readBridge_99 ?_
    refine lv_iconst (v := 0) hx hb dX2_readBridge_102 (by decide) ?_
    refine lv_sipush (v := 999) hx hb dX2_readBridge_103 (by decide) ?_
    refine tm_V (As := [.int 0, .int 999]) (rest := []) ⟨hx, hb, hml, hown, htg⟩ (c_X4_takeNumber l D E G _ a C_59 hT (0 : Int32) (999 : Int32)) (cwV 2 htg (oh_gV q_583 q_584 q_585 q_71 q_586) rfl rfl rfl pdVX4_takeNumber ⟨Nat.le_of_ble_eq_true rfl, Nat.le_of_ble_eq_true rfl⟩) hK hP hD hG hS hA (va_recv hK hP (ci := 4) (q0 := 5) rfl (oh_wg (by decide) (sX_5 hT))) rfl hl.1 rfl (Nat.le_of_ble_eq_true rfl) dX2_readBridge_106 ⟨Nat.le_of_ble_eq_true rfl, Nat.le_of_ble_eq_true rfl⟩ (fun r_63 C_64 H locs hq_65 hP hD hS => ?_)
    obtain ⟨hT, f_66, hq_65⟩ := hq_65
    have hF := fr_tr hF f_66 (by decide) (by decide)
    refine W.widen (k := 0) (n := 0) (Nat.le_refl _) (Nat.le_refl _) ?_
    have t_67 := hT
    refine lv_istore (lv' := [(7, .int r_63), (6, .int r_58), (5, .int r_26), (4, .int r_21), (3, .int r_16), (2, .int r_11), (1, .int r_6), (0, .ref (a 6))]) hx hb dX2_readBridge_109 hl (by decide) rfl (fun ls hl => ?_)
    refine lv_aload_n hx hb dX2_readBridge_111 rfl (lv_at hl 7 rfl) ?_
    refine va_get (D := D) (ci := 2) (v := .ref (a 5)) (C := RX2) (T := TX2) (N := 4) hx hb htg ig_2 hown hK hP 6 (oh_wg (by decide) (sX_6 hT)) rfl 0 (by decide) (htg _ q_245) (fun _ h9 => h9) rfl dX2_readBridge_112 ?_
    refine tq_V (As := []) (rest := []) (ws := (oh_W 35 a C_64)) ⟨hx, hb, hml, hown, htg⟩ (c_X4_isSound l D E G a C_64 hT) (cwV 0 htg (oh_gV q_619 q_592 q_593 q_71 q_594) rfl rfl rfl pdVX4_isSound ⟨Nat.le_of_ble_eq_true rfl, Nat.le_of_ble_eq_true rfl⟩) hK hP hG hS (va_recv hK hP (ci := 4) (q0 := 5) rfl (oh_wg (by decide) (sX_5 hT))) rfl hl.1 rfl (Nat.le_of_ble_eq_true rfl) dX2_readBridge_115 ⟨Nat.le_of_ble_eq_true rfl, Nat.le_of_ble_eq_true rfl⟩ (fun r_68 hq_69 => ?_)
    refine lv_if_eq (tgt := 146) hx hb dX2_readBridge_118 (by decide) (fun (c_70 : r_68 = 0) => ?_) (fun (c_70 : ¬ (r_68 = 0)) => ?_)
    · rw [hQ]
      exact W.vret hx hb hr (fun t ht hW => ⟨⟨C_64, rfl, ⟨hT, hF, trivial⟩, ⟨by rw [ht]; exact hP, hD⟩⟩, hS.F ht⟩) hS.2.2 dX2_readBridge_146
    · have u_71 := hq_69.2 c_70
      have s_72 := u_71
      have s_73 := hq_65.2 s_72
      have s_74 := hq_60.2 (hq_65.1 s_72)
      have s_75 := hq_28.2 (hq_33.2 (hq_60.1 (hq_65.1 s_72)))
      have s_76 := hq_23.2 (hq_28.1 (hq_33.2 (hq_60.1 (hq_65.1 s_72))))
      have s_77 := hq_18.2 (hq_23.1 (hq_28.1 (hq_33.2 (hq_60.1 (hq_65.1 s_72)))))
      have s_78 := hq_13.2 (hq_18.1 (hq_23.1 (hq_28.1 (hq_33.2 (hq_60.1 (hq_65.1 s_72))))))
      have s_79 := hq_8.2 (hq_13.1 (hq_18.1 (hq_23.1 (hq_28.1 (hq_33.2 (hq_60.1 (hq_65.1 s_72)))))))
      have s_80 : ga (C 10) ((1 : Int32)).toNatClampNeg < (16 : Int32) := hq_3.2 (hq_8.1 (hq_13.1 (hq_18.1 (hq_23.1 (hq_28.1 (hq_33.2 (hq_60.1 (hq_65.1 s_72))))))))
      refine lv_aload_n hx hb dX2_readBridge_121 rfl (lv_at hl 7 rfl) ?_
      refine va_get (D := D) (ci := 2) (v := .ref (a 1)) (C := RX2) (T := TX2) (N := 4) hx hb htg ig_2 hown hK hP 6 (oh_wg (by decide) (sX_6 hT)) rfl 1 (by decide) (htg _ q_246) (fun _ h9 => h9) rfl dX2_readBridge_122 ?_
      refine lv_aload_n hx hb dX2_readBridge_125 rfl (lv_at hl 7 rfl) ?_
      refine va_get (D := D) (ci := 2) (v := .ref (a 1)) (C := RX2) (T := TX2) (N := 4) hx hb htg ig_2 hown hK hP 6 (oh_wg (by decide) (sX_6 hT)) rfl 1 (by decide) (htg _ q_246) (fun _ h9 => h9) rfl dX2_readBridge_126 ?_
      refine lv_iload_n hx hb dX2_readBridge_129 rfl (lv_at hl 6 rfl) ?_
      refine lv_iload_n hx hb dX2_readBridge_130 rfl (lv_at hl 5 rfl) ?_
      refine lv_iload_n hx hb dX2_readBridge_131 rfl (lv_at hl 4 rfl) ?_
      refine lv_iload hx hb dX2_readBridge_132 (lv_at hl 3 rfl) ?_
      refine lv_iload hx hb dX2_readBridge_134 (lv_at hl 2 rfl) ?_
      refine tm_V (As := [.int r_6, .int r_11, .int r_16, .int r_21, .int r_26]) (rest := [.ref (a 1)]) ⟨hx, hb, hml, hown, htg⟩ (c_X0_addBridge l D E G _ a C_64 hT r_6 r_11 r_16 r_21 r_26 (rg_w (rn_leu s_79.2 (rn_lel s_79.1 (rg_c (v := 0) (lo := 0) (hi := 0) (by decide)) (rg_any _)) (rg_sub (lo := (-1)) (hi := 23) (tA_rdc (lo := 0) (hi := 24) (tX_10 hT0) (rg_in (rg_c (v := 0) (lo := 0) (hi := 0) (by decide)) (by decide)) (show _ = 0 by decide) (by decide)) (rg_c (v := 1) (lo := 1) (hi := 1) (by decide)) (by decide))) (by decide)) (rg_w (rn_leu s_78.2 (rn_lel s_78.1 (rg_c (v := 0) (lo := 0) (hi := 0) (by decide)) (rg_any _)) (rg_c (v := 5) (lo := 5) (hi := 5) (by decide))) (by decide)) (oh_rgA (Eq.trans (f_66.1 10 rfl (by decide)) (Eq.trans (f_61.1 10 rfl (by decide)) (Eq.trans (f_34.1 10 rfl (by decide)) (Eq.trans (f_29.1 10 rfl (by decide)) (Eq.trans (f_24.1 10 rfl (by decide)) (Eq.trans (f_19.1 10 rfl (by decide)) (Eq.trans (f_14.1 10 rfl (by decide)) (Eq.trans (f_9.1 10 rfl (by decide)) (f_4.1 10 rfl (by decide)))))))))) (rg_w (lo := 0) (hi := 15) (rn_ltu (u' := 15) s_80 (tA_rdc (lo := 0) (hi := 16) (tX_10 hT0) (rg_in (rg_c (v := 1) (lo := 1) (hi := 1) (by decide)) (by decide)) (show _ = 1 by decide) (by decide)) (rg_c (v := 16) (lo := 16) (hi := 16) (by decide)) (by decide)) (by decide)))) (cwV 5 htg (oh_gV q_631 q_433 q_434 q_67 q_435) rfl rfl rfl pdVX0_addBridge ⟨Nat.le_of_ble_eq_true rfl, Nat.le_of_ble_eq_true rfl⟩) hK hP hD hG hS hA (va_recv hK hP (ci := 0) (q0 := 1) rfl (oh_wg (by decide) (sX_1 hT))) rfl hl.1 rfl (Nat.le_of_ble_eq_true rfl) dX2_readBridge_136 ⟨Nat.le_of_ble_eq_true rfl, Nat.le_of_ble_eq_true rfl⟩ (fun r_81 C_82 H locs hq_83 hP hD hS => ?_)
      obtain ⟨hT, f_84, hq_83⟩ := hq_83
      have hF := fr_tr hF f_84 (by decide) (by decide)
      refine W.widen (k := 0) (n := 0) (Nat.le_refl _) (Nat.le_refl _) ?_
      have t_85 := hT
      refine lv_iload hx hb dX2_readBridge_139 (lv_at hl 1 rfl) ?_
      refine lv_iload hx hb dX2_readBridge_141 (lv_at hl 0 rfl) ?_
      refine tm_Vv (As := [.int r_81, .int r_58, .int r_63]) (rest := []) ⟨hx, hb, hml, hown, htg⟩ (c_X0_putProp l D E G _ a C_82 hT r_81 r_58 r_63 (rg_w hq_83 (by decide))) (cwV 3 htg (oh_gV q_632 q_441 q_442 q_67 q_443) rfl rfl rfl pdVX0_putProp ⟨Nat.le_of_ble_eq_true rfl, Nat.le_of_ble_eq_true rfl⟩) hK hP hD hG hS hA (va_recv hK hP (ci := 0) (q0 := 1) rfl (oh_wg (by decide) (sX_1 hT))) rfl hl.1 rfl (Nat.le_of_ble_eq_true rfl) dX2_readBridge_143 ⟨Nat.le_of_ble_eq_true rfl, Nat.le_of_ble_eq_true rfl⟩ (fun C_87 H locs hq_88 hP hD hS => ?_)
      obtain ⟨hT, f_89, hq_88⟩ := hq_88
      have hF := fr_tr hF f_89 (by decide) (by decide)
      refine W.widen (k := 0) (n := 0) (Nat.le_refl _) (Nat.le_refl _) ?_
      have t_90 := hT
      rw [hQ]
      exact W.vret hx hb hr (fun t ht hW => ⟨⟨C_87, rfl, ⟨hT, hF, trivial⟩, ⟨by rw [ht]; exact hP, hD⟩⟩, hS.F ht⟩) hS.2.2 dX2_readBridge_146

set_option maxHeartbeats 4000000 in
set_option maxRecDepth 100000 in
theorem c_X2_readWaggon (l : Launch) (D : va_G) (E : Nat → ClassId) (G : Nat → Nat) (sz : Nat) (a : Nat → Nat) (C : Nat → va_E) (hT : TyX a E C) : Met l yX2_readWaggon (oh_w yX2_readWaggon cX2_readWaggon 4 none) ({ frames := 7, cells := 0, slots := 0, locals := 151 }) (oh_Pm D E G [.ref (a 6)] (oh_W 35 a C) sz) (va_Qv (fun (u : Nat → va_E) => TyX a E u ∧ fr [(5, 6), (10, 11), (13, 14)] [] C u ∧ True) (oh_B D (va_A (oh_W 35 a C) sz) (fun u => oh_W 35 a u)) (va_A (oh_W 35 a C) sz)) 0 0 (va_A (oh_W 35 a C) sz) := by
  refine Met.ofW (cc := cX2_readWaggon) (maxL := 4) (ret := none) (by decide) rfl ?_
  intro p e s m args below meth c s₁ B hml hv
  obtain ⟨rfl, hsz, hP, hK, hD0, hG⟩ := hv
  have hx := B.exec
  have hb := B.bytes
  have hr := B.returns
  have hts := atoms_spec (ws := (oh_w yX2_readWaggon cX2_readWaggon 4 none)) B.pre
  have htg : ∀ w ∈ oh_t, w.before _ s = true := fun w h => hts w (List.mem_cons_of_mem _ h)
  have hown : s.vm.findClass RX2 = some m.cls := findClass_of_methodNamed B.named
  have hlocks := B.notSynchronized
  have hT0 := hT
  subst hsz
  have hD := hD0.self (sz := s.heap.size)
  generalize hAe : va_A (oh_W 35 a C) s.heap.size = A at hD hG ⊢
  have hA : ∀ q : Nat, s.heap.size ≤ q → A q := fun q h => by rw [← hAe]; exact Or.inr h
  have hS : va_S A s.heap s.heap [] := va_S.rf
  have hF : fr [(5, 6), (10, 11), (13, 14)] [] C C := fr_rf
  have hl := lv_entry ([.ref (a 6)]) (n := 4) (Nat.le_of_ble_eq_true rfl)
  rw [lg_entry_eq]
  generalize (lg_sl ([.ref (a 6)]) ++ List.replicate (4 - (lg_sl ([.ref (a 6)])).length) Slot.unset).toArray = ls at hl ⊢
  have hl : lv_has ls 4 [(0, .ref (a 6))] := hl
  refine oh_genQ (fun Q hQ => ?_)
  refine lv_aload_n hx hb dX2_readWaggon_0 rfl (lv_at hl 0 rfl) ?_
  refine lv_iconst (v := 2) hx hb dX2_readWaggon_1 (by decide) ?_
  refine tm_Vv (As := [.int 2]) (rest := []) ⟨hx, hb, hml, hown, htg⟩ (c_X2_enter l D E G _ a C hT (2 : Int32) (rg_w (rg_c (v := 2) (lo := 2) (hi := 2) (by decide)) (by decide))) (cwV 1 htg (oh_gV q_573 q_575 q_8 q_72 q_576) rfl rfl rfl pdVX2_enter ⟨Nat.le_of_ble_eq_true rfl, Nat.le_of_ble_eq_true rfl⟩) hK hP hD hG hS hA (va_recv hK hP (ci := 2) (q0 := 6) rfl (oh_wg (by decide) (sX_6 hT))) rfl hl.1 rfl (Nat.le_of_ble_eq_true rfl) dX2_readWaggon_2 ⟨Nat.le_of_ble_eq_true rfl, Nat.le_of_ble_eq_true rfl⟩ (fun C_2 H locs hq_3 hP hD hS => ?_)
  obtain ⟨hT, f_4, hq_3⟩ := hq_3
  have hF := fr_tr hF f_4 (by decide) (by decide)
  refine W.widen (k := 0) (n := 0) (Nat.le_refl _) (Nat.le_refl _) ?_
  have t_5 := hT
  refine lv_aload_n hx hb dX2_readWaggon_5 rfl (lv_at hl 0 rfl) ?_
  refine va_get (D := D) (ci := 2) (v := .ref (a 5)) (C := RX2) (T := TX2) (N := 4) hx hb htg ig_2 hown hK hP 6 (oh_wg (by decide) (sX_6 hT)) rfl 0 (by decide) (htg _ q_245) (fun _ h9 => h9) rfl dX2_readWaggon_6 ?_
  refine lv_iconst (v := 2) hx hb dX2_readWaggon_9 (by decide) ?_
  refine lv_bipush (v := 12) hx hb dX2_readWaggon_10 (by decide) ?_
  refine tm_V (As := [.int 2, .int 12]) (rest := []) ⟨hx, hb, hml, hown, htg⟩ (c_X4_takeNumber l D E G _ a C_2 hT (2 : Int32) (12 : Int32)) (cwV 2 htg (oh_gV q_583 q_584 q_585 q_71 q_586) rfl rfl rfl pdVX4_takeNumber ⟨Nat.le_of_ble_eq_true rfl, Nat.le_of_ble_eq_true rfl⟩) hK hP hD hG hS hA (va_recv hK hP (ci := 4) (q0 := 5) rfl (oh_wg (by decide) (sX_5 hT))) rfl hl.1 rfl (Nat.le_of_ble_eq_true rfl) dX2_readWaggon_12 ⟨Nat.le_of_ble_eq_true rfl, Nat.le_of_ble_eq_true rfl⟩ (fun r_6 C_7 H locs hq_8 hP hD hS => ?_)
  obtain ⟨hT, f_9, hq_8⟩ := hq_8
  have hF := fr_tr hF f_9 (by decide) (by decide)
  refine W.widen (k := 0) (n := 0) (Nat.le_refl _) (Nat.le_refl _) ?_
  have t_10 := hT
  refine lv_istore_n (lv' := [(1, .int r_6), (0, .ref (a 6))]) hx hb dX2_readWaggon_15 rfl hl (by decide) rfl (fun ls hl => ?_)
  refine lv_aload_n hx hb dX2_readWaggon_16 rfl (lv_at hl 1 rfl) ?_
  refine va_ldcS hx hb hown (hG.2.2.1 ("OneHeavyLoad$Reader", 155, "space", 15) (List.mem_of_getElem? (i := 12) rfl)) dX2_readWaggon_17 ?_
  refine lv_iconst (v := 1) hx hb dX2_readWaggon_19 (by decide) ?_
  refine lv_bipush (v := 9) hx hb dX2_readWaggon_20 (by decide) ?_
  refine tm_V (As := [.ref (G (3 + 12)), .int 1, .int 9]) (rest := []) ⟨hx, hb, hml, hown, htg⟩ (c_X2_number l D E G _ a C_7 hT 12 (1 : Int32) (9 : Int32) (by decide)) (cwV 3 htg (oh_gV q_599 q_601 q_9 q_72 q_602) rfl rfl rfl pdVX2_number ⟨Nat.le_of_ble_eq_true rfl, Nat.le_of_ble_eq_true rfl⟩) hK hP hD hG hS hA (va_recv hK hP (ci := 2) (q0 := 6) rfl (oh_wg (by decide) (sX_6 hT))) rfl hl.1 rfl (Nat.le_of_ble_eq_true rfl) dX2_readWaggon_22 ⟨Nat.le_of_ble_eq_true rfl, Nat.le_of_ble_eq_true rfl⟩ (fun r_11 C_12 H locs hq_13 hP hD hS => ?_)
  obtain ⟨hT, f_14, hq_13⟩ := hq_13
  have hF := fr_tr hF f_14 (by decide) (by decide)
  refine W.widen (k := 0) (n := 0) (Nat.le_refl _) (Nat.le_refl _) ?_
  have t_15 := hT
  refine lv_istore_n (lv' := [(2, .int r_11), (1, .int r_6), (0, .ref (a 6))]) hx hb dX2_readWaggon_25 rfl hl (by decide) rfl (fun ls hl => ?_)
  refine lv_aload_n hx hb dX2_readWaggon_26 rfl (lv_at hl 2 rfl) ?_
  refine va_ldcS hx hb hown (hG.2.2.1 ("OneHeavyLoad$Reader", 157, "tare", 16) (List.mem_of_getElem? (i := 13) rfl)) dX2_readWaggon_27 ?_
  refine lv_iconst (v := 0) hx hb dX2_readWaggon_29 (by decide) ?_
  refine lv_bipush (v := 99) hx hb dX2_readWaggon_30 (by decide) ?_
  refine tm_V (As := [.ref (G (3 + 13)), .int 0, .int 99]) (rest := []) ⟨hx, hb, hml, hown, htg⟩ (c_X2_number l D E G _ a C_12 hT 13 (0 : Int32) (99 : Int32) (by decide)) (cwV 3 htg (oh_gV q_599 q_601 q_9 q_72 q_602) rfl rfl rfl pdVX2_number ⟨Nat.le_of_ble_eq_true rfl, Nat.le_of_ble_eq_true rfl⟩) hK hP hD hG hS hA (va_recv hK hP (ci := 2) (q0 := 6) rfl (oh_wg (by decide) (sX_6 hT))) rfl hl.1 rfl (Nat.le_of_ble_eq_true rfl) dX2_readWaggon_32 ⟨Nat.le_of_ble_eq_true rfl, Nat.le_of_ble_eq_true rfl⟩ (fun r_16 C_17 H locs hq_18 hP hD hS => ?_)
  obtain ⟨hT, f_19, hq_18⟩ := hq_18
  have hF := fr_tr hF f_19 (by decide) (by decide)
  refine W.widen (k := 0) (n := 0) (Nat.le_refl _) (Nat.le_refl _) ?_
  have t_20 := hT
  refine lv_istore_n (lv' := [(3, .int r_16), (2, .int r_11), (1, .int r_6), (0, .ref (a 6))]) hx hb dX2_readWaggon_35 rfl hl (by decide) rfl (fun ls hl => ?_)
  refine lv_aload_n hx hb dX2_readWaggon_36 rfl (lv_at hl 3 rfl) ?_
  refine va_get (D := D) (ci := 2) (v := .ref (a 5)) (C := RX2) (T := TX2) (N := 4) hx hb htg ig_2 hown hK hP 6 (oh_wg (by decide) (sX_6 hT)) rfl 0 (by decide) (htg _ q_245) (fun _ h9 => h9) rfl dX2_readWaggon_37 ?_
  refine tq_V (As := []) (rest := []) (ws := (oh_W 35 a C_17)) ⟨hx, hb, hml, hown, htg⟩ (c_X4_isSound l D E G a C_17 hT) (cwV 0 htg (oh_gV q_619 q_592 q_593 q_71 q_594) rfl rfl rfl pdVX4_isSound ⟨Nat.le_of_ble_eq_true rfl, Nat.le_of_ble_eq_true rfl⟩) hK hP hG hS (va_recv hK hP (ci := 4) (q0 := 5) rfl (oh_wg (by decide) (sX_5 hT))) rfl hl.1 rfl (Nat.le_of_ble_eq_true rfl) dX2_readWaggon_40 ⟨Nat.le_of_ble_eq_true rfl, Nat.le_of_ble_eq_true rfl⟩ (fun r_21 hq_22 => ?_)
  refine lv_if_eq (tgt := 57) hx hb dX2_readWaggon_43 (by decide) (fun (c_23 : r_21 = 0) => ?_) (fun (c_23 : ¬ (r_21 = 0)) => ?_)
  · rw [hQ]
    exact W.vret hx hb hr (fun t ht hW => ⟨⟨C_17, rfl, ⟨hT, hF, trivial⟩, ⟨by rw [ht]; exact hP, hD⟩⟩, hS.F ht⟩) hS.2.2 dX2_readWaggon_57
  · have u_24 := hq_22.2 c_23
    have s_25 := u_24
    have s_26 := hq_18.2 s_25
    have s_27 := hq_13.2 (hq_18.1 s_25)
    have s_28 := hq_8.2 (hq_13.1 (hq_18.1 s_25))
    have s_29 : ga (C 10) ((2 : Int32)).toNatClampNeg < (5 : Int32) := hq_3.2 (hq_8.1 (hq_13.1 (hq_18.1 s_25)))
    refine lv_aload_n hx hb dX2_readWaggon_46 rfl (lv_at hl 3 rfl) ?_
    refine va_get (D := D) (ci := 2) (v := .ref (a 1)) (C := RX2) (T := TX2) (N := 4) hx hb htg ig_2 hown hK hP 6 (oh_wg (by decide) (sX_6 hT)) rfl 1 (by decide) (htg _ q_246) (fun _ h9 => h9) rfl dX2_readWaggon_47 ?_
    refine lv_iload_n hx hb dX2_readWaggon_50 rfl (lv_at hl 2 rfl) ?_
    refine lv_iload_n hx hb dX2_readWaggon_51 rfl (lv_at hl 1 rfl) ?_
    refine lv_iload_n hx hb dX2_readWaggon_52 rfl (lv_at hl 0 rfl) ?_
    refine tm_V (As := [.int r_6, .int r_11, .int r_16]) (rest := []) ⟨hx, hb, hml, hown, htg⟩ (c_X0_addWaggon l D E G _ a C_17 hT r_6 r_11 r_16 (oh_rgA (Eq.trans (f_19.1 10 rfl (by decide)) (Eq.trans (f_14.1 10 rfl (by decide)) (Eq.trans (f_9.1 10 rfl (by decide)) (f_4.1 10 rfl (by decide))))) (rg_w (lo := 0) (hi := 4) (rn_ltu (u' := 4) s_29 (tA_rdc (lo := 0) (hi := 5) (tX_10 hT0) (rg_in (rg_c (v := 2) (lo := 2) (hi := 2) (by decide)) (by decide)) (show _ = 2 by decide) (by decide)) (rg_c (v := 5) (lo := 5) (hi := 5) (by decide)) (by decide)) (by decide)))) (cwV 3 htg (oh_gV q_640 q_453 q_454 q_67 q_455) rfl rfl rfl pdVX0_addWaggon ⟨Nat.le_of_ble_eq_true rfl, Nat.le_of_ble_eq_true rfl⟩) hK hP hD hG hS hA (va_recv hK hP (ci := 0) (q0 := 1) rfl (oh_wg (by decide) (sX_1 hT))) rfl hl.1 rfl (Nat.le_of_ble_eq_true rfl) dX2_readWaggon_53 ⟨Nat.le_of_ble_eq_true rfl, Nat.le_of_ble_eq_true rfl⟩ (fun r_30 C_31 H locs hq_32 hP hD hS => ?_)
    obtain ⟨hT, f_33, hq_32⟩ := hq_32
    have hF := fr_tr hF f_33 (by decide) (by decide)
    refine W.widen (k := 0) (n := 0) (Nat.le_refl _) (Nat.le_refl _) ?_
    have t_34 := hT
    refine lv_pop hx hb dX2_readWaggon_56 rfl ?_
    rw [hQ]
    exact W.vret hx hb hr (fun t ht hW => ⟨⟨C_31, rfl, ⟨hT, hF, trivial⟩, ⟨by rw [ht]; exact hP, hD⟩⟩, hS.F ht⟩) hS.2.2 dX2_readWaggon_57

set_option maxHeartbeats 4000000 in
set_option maxRecDepth 100000 in
theorem c_X2_readPart (l : Launch) (D : va_G) (E : Nat → ClassId) (G : Nat → Nat) (sz : Nat) (a : Nat → Nat) (C : Nat → va_E) (hT : TyX a E C) : Met l yX2_readPart (oh_w yX2_readPart cX2_readPart 3 none) ({ frames := 2, cells := 0, slots := 0, locals := 45 }) (oh_Pm D E G [.ref (a 6)] (oh_W 35 a C) sz) (va_Qv (fun (u : Nat → va_E) => TyX a E u ∧ fr [(5, 6), (10, 11), (14, 15)] [] C u ∧ True) (oh_B D (va_A (oh_W 35 a C) sz) (fun u => oh_W 35 a u)) (va_A (oh_W 35 a C) sz)) 0 0 (va_A (oh_W 35 a C) sz) := by
  refine Met.ofW (cc := cX2_readPart) (maxL := 3) (ret := none) (by decide) rfl ?_
  intro p e s m args below meth c s₁ B hml hv
  obtain ⟨rfl, hsz, hP, hK, hD0, hG⟩ := hv
  have hx := B.exec
  have hb := B.bytes
  have hr := B.returns
  have hts := atoms_spec (ws := (oh_w yX2_readPart cX2_readPart 3 none)) B.pre
  have htg : ∀ w ∈ oh_t, w.before _ s = true := fun w h => hts w (List.mem_cons_of_mem _ h)
  have hown : s.vm.findClass RX2 = some m.cls := findClass_of_methodNamed B.named
  have hlocks := B.notSynchronized
  have hT0 := hT
  subst hsz
  have hD := hD0.self (sz := s.heap.size)
  generalize hAe : va_A (oh_W 35 a C) s.heap.size = A at hD hG ⊢
  have hA : ∀ q : Nat, s.heap.size ≤ q → A q := fun q h => by rw [← hAe]; exact Or.inr h
  have hS : va_S A s.heap s.heap [] := va_S.rf
  have hF : fr [(5, 6), (10, 11), (14, 15)] [] C C := fr_rf
  have hl := lv_entry ([.ref (a 6)]) (n := 3) (Nat.le_of_ble_eq_true rfl)
  rw [lg_entry_eq]
  generalize (lg_sl ([.ref (a 6)]) ++ List.replicate (3 - (lg_sl ([.ref (a 6)])).length) Slot.unset).toArray = ls at hl ⊢
  have hl : lv_has ls 3 [(0, .ref (a 6))] := hl
  refine oh_genQ (fun Q hQ => ?_)
  refine lv_aload_n hx hb dX2_readPart_0 rfl (lv_at hl 0 rfl) ?_
  refine lv_iconst (v := 3) hx hb dX2_readPart_1 (by decide) ?_
  refine tm_Vv (As := [.int 3]) (rest := []) ⟨hx, hb, hml, hown, htg⟩ (c_X2_enter l D E G _ a C hT (3 : Int32) (rg_w (rg_c (v := 3) (lo := 3) (hi := 3) (by decide)) (by decide))) (cwV 1 htg (oh_gV q_573 q_575 q_8 q_72 q_576) rfl rfl rfl pdVX2_enter ⟨Nat.le_of_ble_eq_true rfl, Nat.le_of_ble_eq_true rfl⟩) hK hP hD hG hS hA (va_recv hK hP (ci := 2) (q0 := 6) rfl (oh_wg (by decide) (sX_6 hT))) rfl hl.1 rfl (Nat.le_of_ble_eq_true rfl) dX2_readPart_2 ⟨Nat.le_of_ble_eq_true rfl, Nat.le_of_ble_eq_true rfl⟩ (fun C_2 H locs hq_3 hP hD hS => ?_)
  obtain ⟨hT, f_4, hq_3⟩ := hq_3
  have hF := fr_tr hF f_4 (by decide) (by decide)
  refine W.widen (k := 0) (n := 0) (Nat.le_refl _) (Nat.le_refl _) ?_
  have t_5 := hT
  refine lv_aload_n hx hb dX2_readPart_5 rfl (lv_at hl 0 rfl) ?_
  refine va_get (D := D) (ci := 2) (v := .ref (a 5)) (C := RX2) (T := TX2) (N := 4) hx hb htg ig_2 hown hK hP 6 (oh_wg (by decide) (sX_6 hT)) rfl 0 (by decide) (htg _ q_245) (fun _ h9 => h9) rfl dX2_readPart_6 ?_
  refine lv_iconst (v := 1) hx hb dX2_readPart_9 (by decide) ?_
  refine lv_bipush (v := 99) hx hb dX2_readPart_10 (by decide) ?_
  refine tm_V (As := [.int 1, .int 99]) (rest := []) ⟨hx, hb, hml, hown, htg⟩ (c_X4_takeNumber l D E G _ a C_2 hT (1 : Int32) (99 : Int32)) (cwV 2 htg (oh_gV q_583 q_584 q_585 q_71 q_586) rfl rfl rfl pdVX4_takeNumber ⟨Nat.le_of_ble_eq_true rfl, Nat.le_of_ble_eq_true rfl⟩) hK hP hD hG hS hA (va_recv hK hP (ci := 4) (q0 := 5) rfl (oh_wg (by decide) (sX_5 hT))) rfl hl.1 rfl (Nat.le_of_ble_eq_true rfl) dX2_readPart_12 ⟨Nat.le_of_ble_eq_true rfl, Nat.le_of_ble_eq_true rfl⟩ (fun r_6 C_7 H locs hq_8 hP hD hS => ?_)
  obtain ⟨hT, f_9, hq_8⟩ := hq_8
  have hF := fr_tr hF f_9 (by decide) (by decide)
  refine W.widen (k := 0) (n := 0) (Nat.le_refl _) (Nat.le_refl _) ?_
  have t_10 := hT
  refine lv_istore_n (lv' := [(1, .int r_6), (0, .ref (a 6))]) hx hb dX2_readPart_15 rfl hl (by decide) rfl (fun ls hl => ?_)
  refine lv_aload_n hx hb dX2_readPart_16 rfl (lv_at hl 1 rfl) ?_
  refine va_get (D := D) (ci := 2) (v := .ref (a 5)) (C := RX2) (T := TX2) (N := 4) hx hb htg ig_2 hown hK hP 6 (oh_wg (by decide) (sX_6 hT)) rfl 0 (by decide) (htg _ q_245) (fun _ h9 => h9) rfl dX2_readPart_17 ?_
  refine lv_iconst (v := 0) hx hb dX2_readPart_20 (by decide) ?_
  refine lv_bipush (v := 99) hx hb dX2_readPart_21 (by decide) ?_
  refine tm_V (As := [.int 0, .int 99]) (rest := []) ⟨hx, hb, hml, hown, htg⟩ (c_X4_takeNumber l D E G _ a C_7 hT (0 : Int32) (99 : Int32)) (cwV 2 htg (oh_gV q_583 q_584 q_585 q_71 q_586) rfl rfl rfl pdVX4_takeNumber ⟨Nat.le_of_ble_eq_true rfl, Nat.le_of_ble_eq_true rfl⟩) hK hP hD hG hS hA (va_recv hK hP (ci := 4) (q0 := 5) rfl (oh_wg (by decide) (sX_5 hT))) rfl hl.1 rfl (Nat.le_of_ble_eq_true rfl) dX2_readPart_23 ⟨Nat.le_of_ble_eq_true rfl, Nat.le_of_ble_eq_true rfl⟩ (fun r_11 C_12 H locs hq_13 hP hD hS => ?_)
  obtain ⟨hT, f_14, hq_13⟩ := hq_13
  have hF := fr_tr hF f_14 (by decide) (by decide)
  refine W.widen (k := 0) (n := 0) (Nat.le_refl _) (Nat.le_refl _) ?_
  have t_15 := hT
  refine lv_istore_n (lv' := [(2, .int r_11), (1, .int r_6), (0, .ref (a 6))]) hx hb dX2_readPart_26 rfl hl (by decide) rfl (fun ls hl => ?_)
  refine lv_aload_n hx hb dX2_readPart_27 rfl (lv_at hl 2 rfl) ?_
  refine va_get (D := D) (ci := 2) (v := .ref (a 5)) (C := RX2) (T := TX2) (N := 4) hx hb htg ig_2 hown hK hP 6 (oh_wg (by decide) (sX_6 hT)) rfl 0 (by decide) (htg _ q_245) (fun _ h9 => h9) rfl dX2_readPart_28 ?_
  refine tq_V (As := []) (rest := []) (ws := (oh_W 35 a C_12)) ⟨hx, hb, hml, hown, htg⟩ (c_X4_isSound l D E G a C_12 hT) (cwV 0 htg (oh_gV q_619 q_592 q_593 q_71 q_594) rfl rfl rfl pdVX4_isSound ⟨Nat.le_of_ble_eq_true rfl, Nat.le_of_ble_eq_true rfl⟩) hK hP hG hS (va_recv hK hP (ci := 4) (q0 := 5) rfl (oh_wg (by decide) (sX_5 hT))) rfl hl.1 rfl (Nat.le_of_ble_eq_true rfl) dX2_readPart_31 ⟨Nat.le_of_ble_eq_true rfl, Nat.le_of_ble_eq_true rfl⟩ (fun r_16 hq_17 => ?_)
  refine lv_if_eq (tgt := 47) hx hb dX2_readPart_34 (by decide) (fun (c_18 : r_16 = 0) => ?_) (fun (c_18 : ¬ (r_16 = 0)) => ?_)
  · rw [hQ]
    exact W.vret hx hb hr (fun t ht hW => ⟨⟨C_12, rfl, ⟨hT, hF, trivial⟩, ⟨by rw [ht]; exact hP, hD⟩⟩, hS.F ht⟩) hS.2.2 dX2_readPart_47
  · have u_19 := hq_17.2 c_18
    have s_20 := u_19
    have s_21 := hq_13.2 s_20
    have s_22 := hq_8.2 (hq_13.1 s_20)
    have s_23 : ga (C 10) ((3 : Int32)).toNatClampNeg < (5 : Int32) := hq_3.2 (hq_8.1 (hq_13.1 s_20))
    refine lv_aload_n hx hb dX2_readPart_37 rfl (lv_at hl 2 rfl) ?_
    refine va_get (D := D) (ci := 2) (v := .ref (a 1)) (C := RX2) (T := TX2) (N := 4) hx hb htg ig_2 hown hK hP 6 (oh_wg (by decide) (sX_6 hT)) rfl 1 (by decide) (htg _ q_246) (fun _ h9 => h9) rfl dX2_readPart_38 ?_
    refine lv_iload_n hx hb dX2_readPart_41 rfl (lv_at hl 1 rfl) ?_
    refine lv_iload_n hx hb dX2_readPart_42 rfl (lv_at hl 0 rfl) ?_
    refine tm_V (As := [.int r_6, .int r_11]) (rest := []) ⟨hx, hb, hml, hown, htg⟩ (c_X0_addPart l D E G _ a C_12 hT r_6 r_11 (oh_rgA (Eq.trans (f_14.1 10 rfl (by decide)) (Eq.trans (f_9.1 10 rfl (by decide)) (f_4.1 10 rfl (by decide)))) (rg_w (lo := 0) (hi := 4) (rn_ltu (u' := 4) s_23 (tA_rdc (lo := 0) (hi := 5) (tX_10 hT0) (rg_in (rg_c (v := 3) (lo := 3) (hi := 3) (by decide)) (by decide)) (show _ = 3 by decide) (by decide)) (rg_c (v := 5) (lo := 5) (hi := 5) (by decide)) (by decide)) (by decide)))) (cwV 2 htg (oh_gV q_646 q_461 q_462 q_67 q_463) rfl rfl rfl pdVX0_addPart ⟨Nat.le_of_ble_eq_true rfl, Nat.le_of_ble_eq_true rfl⟩) hK hP hD hG hS hA (va_recv hK hP (ci := 0) (q0 := 1) rfl (oh_wg (by decide) (sX_1 hT))) rfl hl.1 rfl (Nat.le_of_ble_eq_true rfl) dX2_readPart_43 ⟨Nat.le_of_ble_eq_true rfl, Nat.le_of_ble_eq_true rfl⟩ (fun r_24 C_25 H locs hq_26 hP hD hS => ?_)
    obtain ⟨hT, f_27, hq_26⟩ := hq_26
    have hF := fr_tr hF f_27 (by decide) (by decide)
    refine W.widen (k := 0) (n := 0) (Nat.le_refl _) (Nat.le_refl _) ?_
    have t_28 := hT
    refine lv_pop hx hb dX2_readPart_46 rfl ?_
    rw [hQ]
    exact W.vret hx hb hr (fun t ht hW => ⟨⟨C_25, rfl, ⟨hT, hF, trivial⟩, ⟨by rw [ht]; exact hP, hD⟩⟩, hS.F ht⟩) hS.2.2 dX2_readPart_47

set_option maxHeartbeats 4000000 in
set_option maxRecDepth 100000 in
theorem c_X2_readSetting (l : Launch) (D : va_G) (E : Nat → ClassId) (G : Nat → Nat) (sz : Nat) (a : Nat → Nat) (C : Nat → va_E) (hT : TyX a E C) (x1 : Int32) (hx1 : rg x1 0 1) : Met l yX2_readSetting (oh_w yX2_readSetting cX2_readSetting 3 none) ({ frames := 2, cells := 0, slots := 0, locals := 45 }) (oh_Pm D E G [.ref (a 6), .int x1] (oh_W 35 a C) sz) (va_Qv (fun (u : Nat → va_E) => TyX a E u ∧ fr [(5, 6), (15, 16)] [] C u ∧ True) (oh_B D (va_A (oh_W 35 a C) sz) (fun u => oh_W 35 a u)) (va_A (oh_W 35 a C) sz)) 0 0 (va_A (oh_W 35 a C) sz) := by
  refine Met.ofW (cc := cX2_readSetting) (maxL := 3) (ret := none) (by decide) rfl ?_
  intro p e s m args below meth c s₁ B hml hv
  obtain ⟨rfl, hsz, hP, hK, hD0, hG⟩ := hv
  have hx := B.exec
  have hb := B.bytes
  have hr := B.returns
  have hts := atoms_spec (ws := (oh_w yX2_readSetting cX2_readSetting 3 none)) B.pre
  have htg : ∀ w ∈ oh_t, w.before _ s = true := fun w h => hts w (List.mem_cons_of_mem _ h)
  have hown : s.vm.findClass RX2 = some m.cls := findClass_of_methodNamed B.named
  have hlocks := B.notSynchronized
  have hT0 := hT
  subst hsz
  have hD := hD0.self (sz := s.heap.size)
  generalize hAe : va_A (oh_W 35 a C) s.heap.size = A at hD hG ⊢
  have hA : ∀ q : Nat, s.heap.size ≤ q → A q := fun q h => by rw [← hAe]; exact Or.inr h
  have hS : va_S A s.heap s.heap [] := va_S.rf
  have hF : fr [(5, 6), (15, 16)] [] C C := fr_rf
  have hl := lv_entry ([.ref (a 6), .int x1]) (n := 3) (Nat.le_of_ble_eq_true rfl)
  rw [lg_entry_eq]
  generalize (lg_sl ([.ref (a 6), .int x1]) ++ List.replicate (3 - (lg_sl ([.ref (a 6), .int x1])).length) Slot.unset).toArray = ls at hl ⊢
  have hl : lv_has ls 3 [(0, .ref (a 6)), (1, .int x1)] := hl
  refine oh_genQ (fun Q hQ => ?_)
  refine lv_aload_n hx hb dX2_readSetting_0 rfl (lv_at hl 0 rfl) ?_
  refine va_get (D := D) (ci := 2) (v := .ref (a 5)) (C := RX2) (T := TX2) (N := 4) hx hb htg ig_2 hown hK hP 6 (oh_wg (by decide) (sX_6 hT)) rfl 0 (by decide) (htg _ q_245) (fun _ h9 => h9) rfl dX2_readSetting_1 ?_
  refine lv_iconst (v := 0) hx hb dX2_readSetting_4 (by decide) ?_
  refine va_getsN hx hb hG.2.2.2.2.1.1 hS hown (va_Nw.use rfl (hG.2.1 ("OneHeavyLoad$Reader", 166, "OneHeavyLoad", "MAX_SETTING", "[I", "OneHeavyLoad") (List.mem_of_getElem? (i := 4) rfl))) (fun _ h9 => h9) dX2_readSetting_5 ?_
  refine lv_iload_n hx hb dX2_readSetting_8 rfl (lv_at hl 1 rfl) ?_
  refine va_ti (v := .int (oh_maxs (x1).toNatClampNeg)) hx hb hG.2.2.2.2.1.2 hS (rg_in hx1 (by decide)) rfl dX2_readSetting_9 ?_
  refine tm_V (As := [.int 0, .int (oh_maxs (x1).toNatClampNeg)]) (rest := []) ⟨hx, hb, hml, hown, htg⟩ (c_X4_takeNumber l D E G _ a C hT (0 : Int32) (oh_maxs (x1).toNatClampNeg)) (cwV 2 htg (oh_gV q_583 q_584 q_585 q_71 q_586) rfl rfl rfl pdVX4_takeNumber ⟨Nat.le_of_ble_eq_true rfl, Nat.le_of_ble_eq_true rfl⟩) hK hP hD hG hS hA (va_recv hK hP (ci := 4) (q0 := 5) rfl (oh_wg (by decide) (sX_5 hT))) rfl hl.1 rfl (Nat.le_of_ble_eq_true rfl) dX2_readSetting_10 ⟨Nat.le_of_ble_eq_true rfl, Nat.le_of_ble_eq_true rfl⟩ (fun r_1 C_2 H locs hq_3 hP hD hS => ?_)
  obtain ⟨hT, f_4, hq_3⟩ := hq_3
  have hF := fr_tr hF f_4 (by decide) (by decide)
  refine W.widen (k := 0) (n := 0) (Nat.le_refl _) (Nat.le_refl _) ?_
  have t_5 := hT
  refine lv_istore_n (lv' := [(2, .int r_1), (0, .ref (a 6)), (1, .int x1)]) hx hb dX2_readSetting_13 rfl hl (by decide) rfl (fun ls hl => ?_)
  refine lv_aload_n hx hb dX2_readSetting_14 rfl (lv_at hl 1 rfl) ?_
  refine va_get (D := D) (ci := 2) (v := .ref (a 5)) (C := RX2) (T := TX2) (N := 4) hx hb htg ig_2 hown hK hP 6 (oh_wg (by decide) (sX_6 hT)) rfl 0 (by decide) (htg _ q_245) (fun _ h9 => h9) rfl dX2_readSetting_15 ?_
  refine tq_V (As := []) (rest := []) (ws := (oh_W 35 a C_2)) ⟨hx, hb, hml, hown, htg⟩ (c_X4_isSound l D E G a C_2 hT) (cwV 0 htg (oh_gV q_619 q_592 q_593 q_71 q_594) rfl rfl rfl pdVX4_isSound ⟨Nat.le_of_ble_eq_true rfl, Nat.le_of_ble_eq_true rfl⟩) hK hP hG hS (va_recv hK hP (ci := 4) (q0 := 5) rfl (oh_wg (by decide) (sX_5 hT))) rfl hl.1 rfl (Nat.le_of_ble_eq_true rfl) dX2_readSetting_18 ⟨Nat.le_of_ble_eq_true rfl, Nat.le_of_ble_eq_true rfl⟩ (fun r_6 hq_7 => ?_)
  refine lv_if_eq (tgt := 34) hx hb dX2_readSetting_21 (by decide) (fun (c_8 : r_6 = 0) => ?_) (fun (c_8 : ¬ (r_6 = 0)) => ?_)
  · rw [hQ]
    exact W.vret hx hb hr (fun t ht hW => ⟨⟨C_2, rfl, ⟨hT, hF, trivial⟩, ⟨by rw [ht]; exact hP, hD⟩⟩, hS.F ht⟩) hS.2.2 dX2_readSetting_34
  · have u_9 := hq_7.2 c_8
    have s_10 := u_9
    have s_11 := hq_3.2 s_10
    refine lv_aload_n hx hb dX2_readSetting_24 rfl (lv_at hl 1 rfl) ?_
    refine va_get (D := D) (ci := 2) (v := .ref (a 1)) (C := RX2) (T := TX2) (N := 4) hx hb htg ig_2 hown hK hP 6 (oh_wg (by decide) (sX_6 hT)) rfl 1 (by decide) (htg _ q_246) (fun _ h9 => h9) rfl dX2_readSetting_25 ?_
    refine va_get (D := D) (ci := 0) (v := .ref (a 15)) (C := RX0) (T := TX0) (N := 8) hx hb htg ig_0 hown hK hP 1 (oh_wg (by decide) (sX_1 hT)) rfl 5 (by decide) (htg _ q_107) (fun _ h9 => h9) rfl dX2_readSetting_28 ?_
    refine lv_iload_n hx hb dX2_readSetting_31 rfl (lv_at hl 2 rfl) ?_
    refine lv_iload_n hx hb dX2_readSetting_32 rfl (lv_at hl 0 rfl) ?_
    have n_12 : vp_in x1 3 := (rg_in hx1 (by decide))
    refine th_iast (T := TyX a E) (Rl := fr [(5, 6), (15, 16)] [] C) hx hb hK hP hD hS 15 (by decide) (sX_15 hT) n_12 (hT.up 15 (tA_upd (tX_15 hT) tA_any)) (fr_st hF (by decide) (by decide)) dX2_readSetting_33 (fun C_13 H locs e_14 hT hF hP hD hS => ?_)
    have t_15 := hT
    rw [hQ]
    exact W.vret hx hb hr (fun t ht hW => ⟨⟨C_13, rfl, ⟨hT, hF, trivial⟩, ⟨by rw [ht]; exact hP, hD⟩⟩, hS.F ht⟩) hS.2.2 dX2_readSetting_34

set_option maxHeartbeats 4000000 in
set_option maxRecDepth 100000 in
theorem c_X2_readStatement (l : Launch) (D : va_G) (E : Nat → ClassId) (G : Nat → Nat) (sz : Nat) (a : Nat → Nat) (C : Nat → va_E) (hT : TyX a E C) : Met l yX2_readStatement (oh_w yX2_readStatement cX2_readStatement 1 none) ({ frames := 8, cells := 0, slots := 0, locals := 179 }) (oh_Pm D E G [.ref (a 6)] (oh_W 35 a C) sz) (va_Qv (fun (u : Nat → va_E) => TyX a E u ∧ fr [(5, 6), (10, 16)] [] C u ∧ True) (oh_B D (va_A (oh_W 35 a C) sz) (fun u => oh_W 35 a u)) (va_A (oh_W 35 a C) sz)) 0 0 (va_A (oh_W 35 a C) sz) := by
  refine Met.ofW (cc := cX2_readStatement) (maxL := 1) (ret := none) (by decide) rfl ?_
  intro p e s m args below meth c s₁ B hml hv
  obtain ⟨rfl, hsz, hP, hK, hD0, hG⟩ := hv
  have hx := B.exec
  have hb := B.bytes
  have hr := B.returns
  have hts := atoms_spec (ws := (oh_w yX2_readStatement cX2_readStatement 1 none)) B.pre
  have htg : ∀ w ∈ oh_t, w.before _ s = true := fun w h => hts w (List.mem_cons_of_mem _ h)
  have hown : s.vm.findClass RX2 = some m.cls := findClass_of_methodNamed B.named
  have hlocks := B.notSynchronized
  have hT0 := hT
  subst hsz
  have hD := hD0.self (sz := s.heap.size)
  generalize hAe : va_A (oh_W 35 a C) s.heap.size = A at hD hG ⊢
  have hA : ∀ q : Nat, s.heap.size ≤ q → A q := fun q h => by rw [← hAe]; exact Or.inr h
  have hS : va_S A s.heap s.heap [] := va_S.rf
  have hF : fr [(5, 6), (10, 16)] [] C C := fr_rf
  have hl := lv_entry ([.ref (a 6)]) (n := 1) (Nat.le_of_ble_eq_true rfl)
  rw [lg_entry_eq]
  generalize (lg_sl ([.ref (a 6)]) ++ List.replicate (1 - (lg_sl ([.ref (a 6)])).length) Slot.unset).toArray = ls at hl ⊢
  have hl : lv_has ls 1 [(0, .ref (a 6))] := hl
  refine oh_genQ (fun Q hQ => ?_)
  refine lv_aload_n hx hb dX2_readStatement_0 rfl (lv_at hl 0 rfl) ?_
  refine va_get (D := D) (ci := 2) (v := .ref (a 5)) (C := RX2) (T := TX2) (N := 4) hx hb htg ig_2 hown hK hP 6 (oh_wg (by decide) (sX_6 hT)) rfl 0 (by decide) (htg _ q_245) (fun _ h9 => h9) rfl dX2_readStatement_1 ?_
  refine va_ldcS hx hb hown (hG.2.2.1 ("OneHeavyLoad$Reader", 61, "road", 3) (List.mem_of_getElem? (i := 0) rfl)) dX2_readStatement_4 ?_
  refine tq_V (As := [.ref (G (3 + 0))]) (rest := []) (ws := (oh_W 35 a C)) ⟨hx, hb, hml, hown, htg⟩ (c_X4_isWord l D E G a C hT 0 (by decide)) (cwV 1 htg (oh_gV q_517 q_518 q_519 q_71 q_520) rfl rfl rfl pdVX4_isWord ⟨Nat.le_of_ble_eq_true rfl, Nat.le_of_ble_eq_true rfl⟩) hK hP hG hS (va_recv hK hP (ci := 4) (q0 := 5) rfl (oh_wg (by decide) (sX_5 hT))) rfl hl.1 rfl (Nat.le_of_ble_eq_true rfl) dX2_readStatement_6 ⟨Nat.le_of_ble_eq_true rfl, Nat.le_of_ble_eq_true rfl⟩ (fun r_1 hq_2 => ?_)
  refine lv_if_eq (tgt := 19) hx hb dX2_readStatement_9 (by decide) (fun (c_3 : r_1 = 0) => ?_) (fun (c_3 : ¬ (r_1 = 0)) => ?_)
  · refine lv_aload_n hx hb dX2_readStatement_19 rfl (lv_at hl 0 rfl) ?_
    refine va_get (D := D) (ci := 2) (v := .ref (a 5)) (C := RX2) (T := TX2) (N := 4) hx hb htg ig_2 hown hK hP 6 (oh_wg (by decide) (sX_6 hT)) rfl 0 (by decide) (htg _ q_245) (fun _ h9 => h9) rfl dX2_readStatement_20 ?_
    refine va_ldcS hx hb hown (hG.2.2.1 ("OneHeavyLoad$Reader", 70, "bridge", 8) (List.mem_of_getElem? (i := 5) rfl)) dX2_readStatement_23 ?_
    refine tq_V (As := [.ref (G (3 + 5))]) (rest := []) (ws := (oh_W 35 a C)) ⟨hx, hb, hml, hown, htg⟩ (c_X4_isWord l D E G a C hT 5 (by decide)) (cwV 1 htg (oh_gV q_517 q_518 q_519 q_71 q_520) rfl rfl rfl pdVX4_isWord ⟨Nat.le_of_ble_eq_true rfl, Nat.le_of_ble_eq_true rfl⟩) hK hP hG hS (va_recv hK hP (ci := 4) (q0 := 5) rfl (oh_wg (by decide) (sX_5 hT))) rfl hl.1 rfl (Nat.le_of_ble_eq_true rfl) dX2_readStatement_25 ⟨Nat.le_of_ble_eq_true rfl, Nat.le_of_ble_eq_true rfl⟩ (fun r_4 hq_5 => ?_)
    refine lv_if_eq (tgt := 38) hx hb dX2_readStatement_28 (by decide) (fun (c_6 : r_4 = 0) => ?_) (fun (c_6 : ¬ (r_4 = 0)) => ?_)
    · refine lv_aload_n hx hb dX2_readStatement_38 rfl (lv_at hl 0 rfl) ?_
      refine va_get (D := D) (ci := 2) (v := .ref (a 5)) (C := RX2) (T := TX2) (N := 4) hx hb htg ig_2 hown hK hP 6 (oh_wg (by decide) (sX_6 hT)) rfl 0 (by decide) (htg _ q_245) (fun _ h9 => h9) rfl dX2_readStatement_39 ?_
      refine va_ldcS hx hb hown (hG.2.2.1 ("OneHeavyLoad$Reader", 75, "waggon", 14) (List.mem_of_getElem? (i := 11) rfl)) dX2_readStatement_42 ?_
      refine tq_V (As := [.ref (G (3 + 11))]) (rest := []) (ws := (oh_W 35 a C)) ⟨hx, hb, hml, hown, htg⟩ (c_X4_isWord l D E G a C hT 11 (by decide)) (cwV 1 htg (oh_gV q_517 q_518 q_519 q_71 q_520) rfl rfl rfl pdVX4_isWord ⟨Nat.le_of_ble_eq_true rfl, Nat.le_of_ble_eq_true rfl⟩) hK hP hG hS (va_recv hK hP (ci := 4) (q0 := 5) rfl (oh_wg (by decide) (sX_5 hT))) rfl hl.1 rfl (Nat.le_of_ble_eq_true rfl) dX2_readStatement_44 ⟨Nat.le_of_ble_eq_true rfl, Nat.le_of_ble_eq_true rfl⟩ (fun r_7 hq_8 => ?_)
      refine lv_if_eq (tgt := 57) hx hb dX2_readStatement_47 (by decide) (fun (c_9 : r_7 = 0) => ?_) (fun (c_9 : ¬ (r_7 = 0)) => ?_)
      · refine lv_aload_n hx hb dX2_readStatement_57 rfl (lv_at hl 0 rfl) ?_
        refine va_get (D := D) (ci := 2) (v := .ref (a 5)) (C := RX2) (T := TX2) (N := 4) hx hb htg ig_2 hown hK hP 6 (oh_wg (by decide) (sX_6 hT)) rfl 0 (by decide) (htg _ q_245) (fun _ h9 => h9) rfl dX2_readStatement_58 ?_
        refine va_ldcS hx hb hown (hG.2.2.1 ("OneHeavyLoad$Reader", 80, "part", 17) (List.mem_of_getElem? (i := 14) rfl)) dX2_readStatement_61 ?_
        refine tq_V (As := [.ref (G (3 + 14))]) (rest := []) (ws := (oh_W 35 a C)) ⟨hx, hb, hml, hown, htg⟩ (c_X4_isWord l D E G a C hT 14 (by decide)) (cwV 1 htg (oh_gV q_517 q_518 q_519 q_71 q_520) rfl rfl rfl pdVX4_isWord ⟨Nat.le_of_ble_eq_true rfl, Nat.le_of_ble_eq_true rfl⟩) hK hP hG hS (va_recv hK hP (ci := 4) (q0 := 5) rfl (oh_wg (by decide) (sX_5 hT))) rfl hl.1 rfl (Nat.le_of_ble_eq_true rfl) dX2_readStatement_63 ⟨Nat.le_of_ble_eq_true rfl, Nat.le_of_ble_eq_true rfl⟩ (fun r_10 hq_11 => ?_)
        refine lv_if_eq (tgt := 76) hx hb dX2_readStatement_66 (by decide) (fun (c_12 : r_10 = 0) => ?_) (fun (c_12 : ¬ (r_10 = 0)) => ?_)
        · refine lv_aload_n hx hb dX2_readStatement_76 rfl (lv_at hl 0 rfl) ?_
          refine va_get (D := D) (ci := 2) (v := .ref (a 5)) (C := RX2) (T := TX2) (N := 4) hx hb htg ig_2 hown hK hP 6 (oh_wg (by decide) (sX_6 hT)) rfl 0 (by decide) (htg _ q_245) (fun _ h9 => h9) rfl dX2_readStatement_77 ?_
          refine va_ldcS hx hb hown (hG.2.2.1 ("OneHeavyLoad$Reader", 85, "load", 18) (List.mem_of_getElem? (i := 15) rfl)) dX2_readStatement_80 ?_
          refine tm_V (As := [.ref (G (3 + 15))]) (rest := []) ⟨hx, hb, hml, hown, htg⟩ (c_X4_takeWordIfThere l D E G _ a C hT 15 (by decide)) (cwV 1 htg (oh_gV q_613 q_614 q_615 q_71 q_616) rfl rfl rfl pdVX4_takeWordIfThere ⟨Nat.le_of_ble_eq_true rfl, Nat.le_of_ble_eq_true rfl⟩) hK hP hD hG hS hA (va_recv hK hP (ci := 4) (q0 := 5) rfl (oh_wg (by decide) (sX_5 hT))) rfl hl.1 rfl (Nat.le_of_ble_eq_true rfl) dX2_readStatement_82 ⟨Nat.le_of_ble_eq_true rfl, Nat.le_of_ble_eq_true rfl⟩ (fun r_13 C_14 H locs hq_15 hP hD hS => ?_)
          obtain ⟨hT, f_16, hq_15⟩ := hq_15
          have hF := fr_tr hF f_16 (by decide) (by decide)
          refine W.widen (k := 0) (n := 0) (Nat.le_refl _) (Nat.le_refl _) ?_
          have t_17 := hT
          refine lv_if_eq (tgt := 96) hx hb dX2_readStatement_85 (by decide) (fun (c_18 : r_13 = 0) => ?_) (fun (c_18 : ¬ (r_13 = 0)) => ?_)
          · refine lv_aload_n hx hb dX2_readStatement_96 rfl (lv_at hl 0 rfl) ?_
            refine va_get (D := D) (ci := 2) (v := .ref (a 5)) (C := RX2) (T := TX2) (N := 4) hx hb htg ig_2 hown hK hP 6 (oh_wg (by decide) (sX_6 hT)) rfl 0 (by decide) (htg _ q_245) (fun _ h9 => h9) rfl dX2_readStatement_97 ?_
            refine va_ldcS hx hb hown (hG.2.2.1 ("OneHeavyLoad$Reader", 94, "mile", 19) (List.mem_of_getElem? (i := 16) rfl)) dX2_readStatement_100 ?_
            refine tm_V (As := [.ref (G (3 + 16))]) (rest := []) ⟨hx, hb, hml, hown, htg⟩ (c_X4_takeWordIfThere l D E G _ a C_14 hT 16 (by decide)) (cwV 1 htg (oh_gV q_613 q_614 q_615 q_71 q_616) rfl rfl rfl pdVX4_takeWordIfThere ⟨Nat.le_of_ble_eq_true rfl, Nat.le_of_ble_eq_true rfl⟩) hK hP hD hG hS hA (va_recv hK hP (ci := 4) (q0 := 5) rfl (oh_wg (by decide) (sX_5 hT))) rfl hl.1 rfl (Nat.le_of_ble_eq_true rfl) dX2_readStatement_102 ⟨Nat.le_of_ble_eq_true rfl, Nat.le_of_ble_eq_true rfl⟩ (fun r_19 C_20 H locs hq_21 hP hD hS => ?_)
            obtain ⟨hT, f_22, hq_21⟩ := hq_21
            have hF := fr_tr hF f_22 (by decide) (by decide)
            refine W.widen (k := 0) (n := 0) (Nat.le_refl _) (Nat.le_refl _) ?_
            have t_23 := hT
            refine lv_if_eq (tgt := 116) hx hb dX2_readStatement_105 (by decide) (fun (c_24 : r_19 = 0) => ?_) (fun (c_24 : ¬ (r_19 = 0)) => ?_)
            · refine lv_aload_n hx hb dX2_readStatement_116 rfl (lv_at hl 0 rfl) ?_
              refine va_get (D := D) (ci := 2) (v := .ref (a 5)) (C := RX2) (T := TX2) (N := 4) hx hb htg ig_2 hown hK hP 6 (oh_wg (by decide) (sX_6 hT)) rfl 0 (by decide) (htg _ q_245) (fun _ h9 => h9) rfl dX2_readStatement_117 ?_
              refine tm_Vv (As := []) (rest := []) ⟨hx, hb, hml, hown, htg⟩ (c_X4_fail l D E G _ a C_20 hT) (cwV 0 htg (oh_gV q_579 q_580 q_581 q_71 q_582) rfl rfl rfl pdVX4_fail ⟨Nat.le_of_ble_eq_true rfl, Nat.le_of_ble_eq_true rfl⟩) hK hP hD hG hS hA (va_recv hK hP (ci := 4) (q0 := 5) rfl (oh_wg (by decide) (sX_5 hT))) rfl hl.1 rfl (Nat.le_of_ble_eq_true rfl) dX2_readStatement_120 ⟨Nat.le_of_ble_eq_true rfl, Nat.le_of_ble_eq_true rfl⟩ (fun C_26 H locs hq_27 hP hD hS => ?_)
              obtain ⟨hT, f_28, hq_27⟩ := hq_27
              have hF := fr_tr hF f_28 (by decide) (by decide)
              refine W.widen (k := 0) (n := 0) (Nat.le_refl _) (Nat.le_refl _) ?_
              have t_29 := hT
              rw [hQ]
              exact W.vret hx hb hr (fun t ht hW => ⟨⟨C_26, rfl, ⟨hT, hF, trivial⟩, ⟨by rw [ht]; exact hP, hD⟩⟩, hS.F ht⟩) hS.2.2 dX2_readStatement_123
            · refine lv_aload_n hx hb dX2_readStatement_108 rfl (lv_at hl 0 rfl) ?_
              refine lv_iconst (v := 1) hx hb dX2_readStatement_109 (by decide) ?_
              refine tm_Vv (As := [.int 1]) (rest := []) ⟨hx, hb, hml, hown, htg⟩ (c_X2_readSetting l D E G _ a C_20 hT (1 : Int32) (rg_w (rg_c (v := 1) (lo := 1) (hi := 1) (by decide)) (by decide))) (cwV 1 htg (oh_gV q_648 q_650 q_14 q_72 q_651) rfl rfl rfl pdVX2_readSetting ⟨Nat.le_of_ble_eq_true rfl, Nat.le_of_ble_eq_true rfl⟩) hK hP hD hG hS hA (va_recv hK hP (ci := 2) (q0 := 6) rfl (oh_wg (by decide) (sX_6 hT))) rfl hl.1 rfl (Nat.le_of_ble_eq_true rfl) dX2_readStatement_110 ⟨Nat.le_of_ble_eq_true rfl, Nat.le_of_ble_eq_true rfl⟩ (fun C_31 H locs hq_32 hP hD hS => ?_)
              obtain ⟨hT, f_33, hq_32⟩ := hq_32
              have hF := fr_tr hF f_33 (by decide) (by decide)
              refine W.widen (k := 0) (n := 0) (Nat.le_refl _) (Nat.le_refl _) ?_
              have t_34 := hT
              refine lv_goto (tgt := 123) hx hb dX2_readStatement_113 (by decide) ?_
              rw [hQ]
              exact W.vret hx hb hr (fun t ht hW => ⟨⟨C_31, rfl, ⟨hT, hF, trivial⟩, ⟨by rw [ht]; exact hP, hD⟩⟩, hS.F ht⟩) hS.2.2 dX2_readStatement_123
          · refine lv_aload_n hx hb dX2_readStatement_88 rfl (lv_at hl 0 rfl) ?_
            refine lv_iconst (v := 0) hx hb dX2_readStatement_89 (by decide) ?_
            refine tm_Vv (As := [.int 0]) (rest := []) ⟨hx, hb, hml, hown, htg⟩ (c_X2_readSetting l D E G _ a C_14 hT (0 : Int32) (rg_w (rg_c (v := 0) (lo := 0) (hi := 0) (by decide)) (by decide))) (cwV 1 htg (oh_gV q_648 q_650 q_14 q_72 q_651) rfl rfl rfl pdVX2_readSetting ⟨Nat.le_of_ble_eq_true rfl, Nat.le_of_ble_eq_true rfl⟩) hK hP hD hG hS hA (va_recv hK hP (ci := 2) (q0 := 6) rfl (oh_wg (by decide) (sX_6 hT))) rfl hl.1 rfl (Nat.le_of_ble_eq_true rfl) dX2_readStatement_90 ⟨Nat.le_of_ble_eq_true rfl, Nat.le_of_ble_eq_true rfl⟩ (fun C_36 H locs hq_37 hP hD hS => ?_)
            obtain ⟨hT, f_38, hq_37⟩ := hq_37
            have hF := fr_tr hF f_38 (by decide) (by decide)
            refine W.widen (k := 0) (n := 0) (Nat.le_refl _) (Nat.le_refl _) ?_
            have t_39 := hT
            refine lv_goto (tgt := 123) hx hb dX2_readStatement_93 (by decide) ?_
            rw [hQ]
            exact W.vret hx hb hr (fun t ht hW => ⟨⟨C_36, rfl, ⟨hT, hF, trivial⟩, ⟨by rw [ht]; exact hP, hD⟩⟩, hS.F ht⟩) hS.2.2 dX2_readStatement_123
        · refine lv_aload_n hx hb dX2_readStatement_69 rfl (lv_at hl 0 rfl) ?_
          refine tm_Vv (As := []) (rest := []) ⟨hx, hb, hml, hown, htg⟩ (c_X2_readPart l D E G _ a C hT) (cwV 0 htg (oh_gV q_642 q_644 q_13 q_72 q_645) rfl rfl rfl pdVX2_readPart ⟨Nat.le_of_ble_eq_true rfl, Nat.le_of_ble_eq_true rfl⟩) hK hP hD hG hS hA (va_recv hK hP (ci := 2) (q0 := 6) rfl (oh_wg (by decide) (sX_6 hT))) rfl hl.1 rfl (Nat.le_of_ble_eq_true rfl) dX2_readStatement_70 ⟨Nat.le_of_ble_eq_true rfl, Nat.le_of_ble_eq_true rfl⟩ (fun C_41 H locs hq_42 hP hD hS => ?_)
          obtain ⟨hT, f_43, hq_42⟩ := hq_42
          have hF := fr_tr hF f_43 (by decide) (by decide)
          refine W.widen (k := 0) (n := 0) (Nat.le_refl _) (Nat.le_refl _) ?_
          have t_44 := hT
          refine lv_goto (tgt := 123) hx hb dX2_readStatement_73 (by decide) ?_
          rw [hQ]
          exact W.vret hx hb hr (fun t ht hW => ⟨⟨C_41, rfl, ⟨hT, hF, trivial⟩, ⟨by rw [ht]; exact hP, hD⟩⟩, hS.F ht⟩) hS.2.2 dX2_readStatement_123
      · refine lv_aload_n hx hb dX2_readStatement_50 rfl (lv_at hl 0 rfl) ?_
        refine tm_Vv (As := []) (rest := []) ⟨hx, hb, hml, hown, htg⟩ (c_X2_readWaggon l D E G _ a C hT) (cwV 0 htg (oh_gV q_634 q_636 q_12 q_72 q_637) rfl rfl rfl pdVX2_readWaggon ⟨Nat.le_of_ble_eq_true rfl, Nat.le_of_ble_eq_true rfl⟩) hK hP hD hG hS hA (va_recv hK hP (ci := 2) (q0 := 6) rfl (oh_wg (by decide) (sX_6 hT))) rfl hl.1 rfl (Nat.le_of_ble_eq_true rfl) dX2_readStatement_51 ⟨Nat.le_of_ble_eq_true rfl, Nat.le_of_ble_eq_true rfl⟩ (fun C_46 H locs hq_47 hP hD hS => ?_)
        obtain ⟨hT, f_48, hq_47⟩ := hq_47
        have hF := fr_tr hF f_48 (by decide) (by decide)
        refine W.widen (k := 0) (n := 0) (Nat.le_refl _) (Nat.le_refl _) ?_
        have t_49 := hT
        refine lv_goto (tgt := 123) hx hb dX2_readStatement_54 (by decide) ?_
        rw [hQ]
        exact W.vret hx hb hr (fun t ht hW => ⟨⟨C_46, rfl, ⟨hT, hF, trivial⟩, ⟨by rw [ht]; exact hP, hD⟩⟩, hS.F ht⟩) hS.2.2 dX2_readStatement_123
    · refine lv_aload_n hx hb dX2_readStatement_31 rfl (lv_at hl 0 rfl) ?_
      refine tm_Vv (As := []) (rest := []) ⟨hx, hb, hml, hown, htg⟩ (c_X2_readBridge l D E G _ a C hT) (cwV 0 htg (oh_gV q_622 q_624 q_11 q_72 q_625) rfl rfl rfl pdVX2_readBridge ⟨Nat.le_of_ble_eq_true rfl, Nat.le_of_ble_eq_true rfl⟩) hK hP hD hG hS hA (va_recv hK hP (ci := 2) (q0 := 6) rfl (oh_wg (by decide) (sX_6 hT))) rfl hl.1 rfl (Nat.le_of_ble_eq_true rfl) dX2_readStatement_32 ⟨Nat.le_of_ble_eq_true rfl, Nat.le_of_ble_eq_true rfl⟩ (fun C_51 H locs hq_52 hP hD hS => ?_)
      obtain ⟨hT, f_53, hq_52⟩ := hq_52
      have hF := fr_tr hF f_53 (by decide) (by decide)
      refine W.widen (k := 0) (n := 0) (Nat.le_refl _) (Nat.le_refl _) ?_
      have t_54 := hT
      refine lv_goto (tgt := 123) hx hb dX2_readStatement_35 (by decide) ?_
      rw [hQ]
      exact W.vret hx hb hr (fun t ht hW => ⟨⟨C_51, rfl, ⟨hT, hF, trivial⟩, ⟨by rw [ht]; exact hP, hD⟩⟩, hS.F ht⟩) hS.2.2 dX2_readStatement_123
  · refine lv_aload_n hx hb dX2_readStatement_12 rfl (lv_at hl 0 rfl) ?_
    refine tm_Vv (As := []) (rest := []) ⟨hx, hb, hml, hown, htg⟩ (c_X2_readRoad l D E G _ a C hT) (cwV 0 htg (oh_gV q_569 q_571 q_7 q_72 q_572) rfl rfl rfl pdVX2_readRoad ⟨Nat.le_of_ble_eq_true rfl, Nat.le_of_ble_eq_true rfl⟩) hK hP hD hG hS hA (va_recv hK hP (ci := 2) (q0 := 6) rfl (oh_wg (by decide) (sX_6 hT))) rfl hl.1 rfl (Nat.le_of_ble_eq_true rfl) dX2_readStatement_13 ⟨Nat.le_of_ble_eq_true rfl, Nat.le_of_ble_eq_true rfl⟩ (fun C_56 H locs hq_57 hP hD hS => ?_)
    obtain ⟨hT, f_58, hq_57⟩ := hq_57
    have hF := fr_tr hF f_58 (by decide) (by decide)
    refine W.widen (k := 0) (n := 0) (Nat.le_refl _) (Nat.le_refl _) ?_
    have t_59 := hT
    refine lv_goto (tgt := 123) hx hb dX2_readStatement_16 (by decide) ?_
    rw [hQ]
    exact W.vret hx hb hr (fun t ht hW => ⟨⟨C_56, rfl, ⟨hT, hF, trivial⟩, ⟨by rw [ht]; exact hP, hD⟩⟩, hS.F ht⟩) hS.2.2 dX2_readStatement_123

set_option maxHeartbeats 4000000 in
set_option maxRecDepth 100000 in
theorem c_X2_read (l : Launch) (D : va_G) (E : Nat → ClassId) (G : Nat → Nat) (sz : Nat) (a : Nat → Nat) (C : Nat → va_E) (hT : TyX a E C) : Met l yX2_read (oh_w yX2_read cX2_read 2 (some .int)) ({ frames := 9, cells := 0, slots := 0, locals := 199 }) (oh_Pm D E G [.ref (a 6)] (oh_W 35 a C) sz) (va_Qi (fun r (u : Nat → va_E) => TyX a E u ∧ fr [(5, 6), (10, 16), (33, 35)] [] C u ∧ True) (oh_B D (va_A (oh_W 35 a C) sz) (fun u => oh_W 35 a u)) (va_A (oh_W 35 a C) sz)) 0 0 (va_A (oh_W 35 a C) sz) := by
  refine Met.ofW (cc := cX2_read) (maxL := 2) (ret := (some .int)) (by decide) rfl ?_
  intro p e s m args below meth c s₁ B hml hv
  obtain ⟨rfl, hsz, hP, hK, hD0, hG⟩ := hv
  have hx := B.exec
  have hb := B.bytes
  have hr := B.returns
  have hts := atoms_spec (ws := (oh_w yX2_read cX2_read 2 (some .int))) B.pre
  have htg : ∀ w ∈ oh_t, w.before _ s = true := fun w h => hts w (List.mem_cons_of_mem _ h)
  have hown : s.vm.findClass RX2 = some m.cls := findClass_of_methodNamed B.named
  have hlocks := B.notSynchronized
  have hT0 := hT
  subst hsz
  have hD := hD0.self (sz := s.heap.size)
  generalize hAe : va_A (oh_W 35 a C) s.heap.size = A at hD hG ⊢
  have hA : ∀ q : Nat, s.heap.size ≤ q → A q := fun q h => by rw [← hAe]; exact Or.inr h
  have hS : va_S A s.heap s.heap [] := va_S.rf
  have hF : fr [(5, 6), (10, 16), (33, 35)] [] C C := fr_rf
  have hl := lv_entry ([.ref (a 6)]) (n := 2) (Nat.le_of_ble_eq_true rfl)
  rw [lg_entry_eq]
  generalize (lg_sl ([.ref (a 6)]) ++ List.replicate (2 - (lg_sl ([.ref (a 6)])).length) Slot.unset).toArray = ls at hl ⊢
  have hl : lv_has ls 2 [(0, .ref (a 6))] := hl
  refine oh_genQ (fun Q hQ => ?_)
  refine lv_aload_n hx hb dX2_read_0 rfl (lv_at hl 0 rfl) ?_
  refine va_get (D := D) (ci := 2) (v := .ref (a 1)) (C := RX2) (T := TX2) (N := 4) hx hb htg ig_2 hown hK hP 6 (oh_wg (by decide) (sX_6 hT)) rfl 1 (by decide) (htg _ q_246) (fun _ h9 => h9) rfl dX2_read_1 ?_
  refine va_get (D := D) (ci := 0) (v := .ref (a 10)) (C := RX0) (T := TX0) (N := 8) hx hb htg ig_0 hown hK hP 1 (oh_wg (by decide) (sX_1 hT)) rfl 0 (by decide) (htg _ q_98) (fun _ h9 => h9) rfl dX2_read_4 ?_
  refine lv_iconst (v := 0) hx hb dX2_read_7 (by decide) ?_
  refine lv_aload_n hx hb dX2_read_8 rfl (lv_at hl 0 rfl) ?_
  refine va_get (D := D) (ci := 2) (v := .ref (a 33)) (C := RX2) (T := TX2) (N := 4) hx hb htg ig_2 hown hK hP 6 (oh_wg (by decide) (sX_6 hT)) rfl 2 (by decide) (htg _ q_247) (fun _ h9 => h9) rfl dX2_read_9 ?_
  refine lv_iconst (v := 0) hx hb dX2_read_12 (by decide) ?_
  refine lv_aload_n hx hb dX2_read_13 rfl (lv_at hl 0 rfl) ?_
  refine va_get (D := D) (ci := 2) (v := .ref (a 33)) (C := RX2) (T := TX2) (N := 4) hx hb htg ig_2 hown hK hP 6 (oh_wg (by decide) (sX_6 hT)) rfl 2 (by decide) (htg _ q_247) (fun _ h9 => h9) rfl dX2_read_14 ?_
  refine va_alen (v := 4) hx hb hK hP 33 0 (oh_wg (by decide) (sX_33 hT)) rfl (show Int32.ofNat 4 = 4 by decide) dX2_read_17 ?_
  refine th_copyi (T := TyX a E) (Rl := fr [(5, 6), (10, 16), (33, 35)] [] C) hx hb (by rw [hml]; exact hl.1.symm) hown (htg _ q_503) (htg _ q_347) (htg _ q_346) (htg _ q_74) hK hP hD hS 10 33 (by decide) (by decide) (sX_10 hT) (sX_33 hT) (by decide) (by decide) (by decide) (by decide) (by decide) (hT.up 33 (tA_cpy (tX_10 hT) (tX_33 hT))) (fr_st hF (by decide) (by decide)) (Nat.le_of_ble_eq_true rfl) (Nat.le_of_ble_eq_true rfl) dX2_read_18 (fun C_1 H locs e_2 hT hF hP hD hS => ?_)
  have t_3 := hT
  refine lv_aload_n hx hb dX2_read_21 rfl (lv_at hl 0 rfl) ?_
  refine va_get (D := D) (ci := 2) (v := .ref (a 1)) (C := RX2) (T := TX2) (N := 4) hx hb htg ig_2 hown hK hP 6 (oh_wg (by decide) (sX_6 hT)) rfl 1 (by decide) (htg _ q_246) (fun _ h9 => h9) rfl dX2_read_22 ?_
  refine va_get (D := D) (ci := 0) (v := .ref (a 15)) (C := RX0) (T := TX0) (N := 8) hx hb htg ig_0 hown hK hP 1 (oh_wg (by decide) (sX_1 hT)) rfl 5 (by decide) (htg _ q_107) (fun _ h9 => h9) rfl dX2_read_25 ?_
  refine lv_iconst (v := 0) hx hb dX2_read_28 (by decide) ?_
  refine lv_aload_n hx hb dX2_read_29 rfl (lv_at hl 0 rfl) ?_
  refine va_get (D := D) (ci := 2) (v := .ref (a 34)) (C := RX2) (T := TX2) (N := 4) hx hb htg ig_2 hown hK hP 6 (oh_wg (by decide) (sX_6 hT)) rfl 3 (by decide) (htg _ q_248) (fun _ h9 => h9) rfl dX2_read_30 ?_
  refine lv_iconst (v := 0) hx hb dX2_read_33 (by decide) ?_
  refine lv_aload_n hx hb dX2_read_34 rfl (lv_at hl 0 rfl) ?_
  refine va_get (D := D) (ci := 2) (v := .ref (a 34)) (C := RX2) (T := TX2) (N := 4) hx hb htg ig_2 hown hK hP 6 (oh_wg (by decide) (sX_6 hT)) rfl 3 (by decide) (htg _ q_248) (fun _ h9 => h9) rfl dX2_read_35 ?_
  refine va_alen (v := 3) hx hb hK hP 34 0 (oh_wg (by decide) (sX_34 hT)) rfl (show Int32.ofNat 3 = 3 by decide) dX2_read_38 ?_
  refine th_copyi (T := TyX a E) (Rl := fr [(5, 6), (10, 16), (33, 35)] [] C) hx hb (by rw [hml]; exact hl.1.symm) hown (htg _ q_503) (htg _ q_347) (htg _ q_346) (htg _ q_74) hK hP hD hS 15 34 (by decide) (by decide) (sX_15 hT) (sX_34 hT) (by decide) (by decide) (by decide) (by decide) (by decide) (hT.up 34 (tA_cpy (tX_15 hT) (tX_34 hT))) (fr_st hF (by decide) (by decide)) (Nat.le_of_ble_eq_true rfl) (Nat.le_of_ble_eq_true rfl) dX2_read_39 (fun C_4 H locs e_5 hT hF hP hD hS => ?_)
  have t_6 := hT
  refine lv_aload_n hx hb dX2_read_42 rfl (lv_at hl 0 rfl) ?_
  refine va_get (D := D) (ci := 2) (v := .ref (a 5)) (C := RX2) (T := TX2) (N := 4) hx hb htg ig_2 hown hK hP 6 (oh_wg (by decide) (sX_6 hT)) rfl 0 (by decide) (htg _ q_245) (fun _ h9 => h9) rfl dX2_read_43 ?_
  refine tm_Vv (As := []) (rest := []) ⟨hx, hb, hml, hown, htg⟩ (c_X4_rewind l D E G _ a C_4 hT) (cwV 0 htg (oh_gV q_504 q_505 q_506 q_71 q_507) rfl rfl rfl pdVX4_rewind ⟨Nat.le_of_ble_eq_true rfl, Nat.le_of_ble_eq_true rfl⟩) hK hP hD hG hS hA (va_recv hK hP (ci := 4) (q0 := 5) rfl (oh_wg (by decide) (sX_5 hT))) rfl hl.1 rfl (Nat.le_of_ble_eq_true rfl) dX2_read_46 ⟨Nat.le_of_ble_eq_true rfl, Nat.le_of_ble_eq_true rfl⟩ (fun C_8 H locs hq_9 hP hD hS => ?_)
  obtain ⟨hT, f_10, hq_9⟩ := hq_9
  have hF := fr_tr hF f_10 (by decide) (by decide)
  refine W.widen (k := 0) (n := 0) (Nat.le_refl _) (Nat.le_refl _) ?_
  have t_11 := hT
  refine lv_aload_n hx hb dX2_read_49 rfl (lv_at hl 0 rfl) ?_
  refine tm_Vv (As := []) (rest := []) ⟨hx, hb, hml, hown, htg⟩ (c_X2_readStatement l D E G _ a C_8 hT) (cwV 0 htg (oh_gV q_512 q_514 q_6 q_72 q_515) rfl rfl rfl pdVX2_readStatement ⟨Nat.le_of_ble_eq_true rfl, Nat.le_of_ble_eq_true rfl⟩) hK hP hD hG hS hA (va_recv hK hP (ci := 2) (q0 := 6) rfl (oh_wg (by decide) (sX_6 hT))) rfl hl.1 rfl (Nat.le_of_ble_eq_true rfl) dX2_read_50 ⟨Nat.le_of_ble_eq_true rfl, Nat.le_of_ble_eq_true rfl⟩ (fun C_13 H locs hq_14 hP hD hS => ?_)
  obtain ⟨hT, f_15, hq_14⟩ := hq_14
  have hF := fr_tr hF f_15 (by decide) (by decide)
  refine W.widen (k := 0) (n := 0) (Nat.le_refl _) (Nat.le_refl _) ?_
  have t_16 := hT
  refine lv_iconst (v := 1) hx hb dX2_read_53 (by decide) ?_
  refine lv_istore_n (lv' := [(1, .int 1), (0, .ref (a 6))]) hx hb dX2_read_54 rfl hl (by decide) rfl (fun ls hl => ?_)
  have L_55 : ∀ (d : Nat) (K55 : Nat → va_E) (z55_1 : Int32) (H : Heap) (locs : List Loc) (ls : Array Slot), (250 - z55_1.toInt).toNat = d → rg z55_1 1 250 → TyX a E K55 → fr [(5, 6), (10, 16), (33, 35)] [] C K55 → fr [(5, 6), (10, 16)] [] C_13 K55 → va_P D vwCl (oh_W 35 a K55) H → va_D A (oh_W 35 a K55) → va_S A s.heap H locs → lv_has ls 2 [(1, .int z55_1), (0, .ref (a 6))] → W p l e ({ frames := 9, cells := 0, slots := 0, locals := 199 }) s m (([.ref (a 6)] : List Value).toArray) below meth c H locs 0 0 Q (F0 m 55 ls []) := by
    intro d
    induction d using Nat.strongRecOn with
    | ind d ih_55 =>
    intro K55 z55_1 H locs ls hd_55 hz55_1 hT hF hLF_55 hP hD hS hl
    have t_17 := hT
    refine lv_aload_n hx hb dX2_read_55 rfl (lv_at hl 1 rfl) ?_
    refine va_get (D := D) (ci := 2) (v := .ref (a 5)) (C := RX2) (T := TX2) (N := 4) hx hb htg ig_2 hown hK hP 6 (oh_wg (by decide) (sX_6 hT)) rfl 0 (by decide) (htg _ q_245) (fun _ h9 => h9) rfl dX2_read_56 ?_
    refine tq_V (As := []) (rest := []) (ws := (oh_W 35 a K55)) ⟨hx, hb, hml, hown, htg⟩ (c_X4_isSound l D E G a K55 hT) (cwV 0 htg (oh_gV q_619 q_592 q_593 q_71 q_594) rfl rfl rfl pdVX4_isSound ⟨Nat.le_of_ble_eq_true rfl, Nat.le_of_ble_eq_true rfl⟩) hK hP hG hS (va_recv hK hP (ci := 4) (q0 := 5) rfl (oh_wg (by decide) (sX_5 hT))) rfl hl.1 rfl (Nat.le_of_ble_eq_true rfl) dX2_read_59 ⟨Nat.le_of_ble_eq_true rfl, Nat.le_of_ble_eq_true rfl⟩ (fun r_18 hq_19 => ?_)
    refine lv_if_eq (tgt := 99) hx hb dX2_read_62 (by decide) (fun (c_20 : r_18 = 0) => ?_) (fun (c_20 : ¬ (r_18 = 0)) => ?_)
    · refine lv_aload_n hx hb dX2_read_99 rfl (lv_at hl 1 rfl) ?_
      refine va_get (D := D) (ci := 2) (v := .ref (a 5)) (C := RX2) (T := TX2) (N := 4) hx hb htg ig_2 hown hK hP 6 (oh_wg (by decide) (sX_6 hT)) rfl 0 (by decide) (htg _ q_245) (fun _ h9 => h9) rfl dX2_read_100 ?_
      refine tq_V (As := []) (rest := []) (ws := (oh_W 35 a K55)) ⟨hx, hb, hml, hown, htg⟩ (c_X4_isSound l D E G a K55 hT) (cwV 0 htg (oh_gV q_619 q_592 q_593 q_71 q_594) rfl rfl rfl pdVX4_isSound ⟨Nat.le_of_ble_eq_true rfl, Nat.le_of_ble_eq_true rfl⟩) hK hP hG hS (va_recv hK hP (ci := 4) (q0 := 5) rfl (oh_wg (by decide) (sX_5 hT))) rfl hl.1 rfl (Nat.le_of_ble_eq_true rfl) dX2_read_103 ⟨Nat.le_of_ble_eq_true rfl, Nat.le_of_ble_eq_true rfl⟩ (fun r_21 hq_22 => ?_)
      refine lv_if_ne (tgt := 151) hx hb dX2_read_106 (by decide) (fun (c_23 : ¬ (r_21 = 0)) => ?_) (fun (c_23 : r_21 = 0) => ?_)
      · have u_24 := hq_22.2 c_23
        have s_25 := u_24
        refine lv_iload_n hx hb dX2_read_151 rfl (lv_at hl 0 rfl) ?_
        rw [hQ]
        exact W.iret (v := z55_1) hx hb hr (fun t ht hW => ⟨⟨z55_1, K55, rfl, ⟨hT, hF, trivial⟩, ⟨by rw [ht]; exact hP, hD⟩⟩, hS.F ht⟩) hS.2.2 dX2_read_152
      · refine lv_aload_n hx hb dX2_read_109 rfl (lv_at hl 1 rfl) ?_
        refine va_get (D := D) (ci := 2) (v := .ref (a 33)) (C := RX2) (T := TX2) (N := 4) hx hb htg ig_2 hown hK hP 6 (oh_wg (by decide) (sX_6 hT)) rfl 2 (by decide) (htg _ q_247) (fun _ h9 => h9) rfl dX2_read_110 ?_
        refine lv_iconst (v := 0) hx hb dX2_read_113 (by decide) ?_
        refine lv_aload_n hx hb dX2_read_114 rfl (lv_at hl 1 rfl) ?_
        refine va_get (D := D) (ci := 2) (v := .ref (a 1)) (C := RX2) (T := TX2) (N := 4) hx hb htg ig_2 hown hK hP 6 (oh_wg (by decide) (sX_6 hT)) rfl 1 (by decide) (htg _ q_246) (fun _ h9 => h9) rfl dX2_read_115 ?_
        refine va_get (D := D) (ci := 0) (v := .ref (a 10)) (C := RX0) (T := TX0) (N := 8) hx hb htg ig_0 hown hK hP 1 (oh_wg (by decide) (sX_1 hT)) rfl 0 (by decide) (htg _ q_98) (fun _ h9 => h9) rfl dX2_read_118 ?_
        refine lv_iconst (v := 0) hx hb dX2_read_121 (by decide) ?_
        refine lv_aload_n hx hb dX2_read_122 rfl (lv_at hl 1 rfl) ?_
        refine va_get (D := D) (ci := 2) (v := .ref (a 33)) (C := RX2) (T := TX2) (N := 4) hx hb htg ig_2 hown hK hP 6 (oh_wg (by decide) (sX_6 hT)) rfl 2 (by decide) (htg _ q_247) (fun _ h9 => h9) rfl dX2_read_123 ?_
        refine va_alen (v := 4) hx hb hK hP 33 0 (oh_wg (by decide) (sX_33 hT)) rfl (show Int32.ofNat 4 = 4 by decide) dX2_read_126 ?_
        refine th_copyi (T := TyX a E) (Rl := fr [(5, 6), (10, 16), (33, 35)] [] C) hx hb (by rw [hml]; exact hl.1.symm) hown (htg _ q_503) (htg _ q_347) (htg _ q_346) (htg _ q_74) hK hP hD hS 33 10 (by decide) (by decide) (sX_33 hT) (sX_10 hT) (by decide) (by decide) (by decide) (by decide) (by decide) (hT.up 10 (tA_cpy (tX_33 hT) (tX_10 hT))) (fr_st hF (by decide) (by decide)) (Nat.le_of_ble_eq_true rfl) (Nat.le_of_ble_eq_true rfl) dX2_read_127 (fun C_26 H locs e_27 hT hF hP hD hS => ?_)
        have t_28 := hT
        refine lv_aload_n hx hb dX2_read_130 rfl (lv_at hl 1 rfl) ?_
        refine va_get (D := D) (ci := 2) (v := .ref (a 34)) (C := RX2) (T := TX2) (N := 4) hx hb htg ig_2 hown hK hP 6 (oh_wg (by decide) (sX_6 hT)) rfl 3 (by decide) (htg _ q_248) (fun _ h9 => h9) rfl dX2_read_131 ?_
        refine lv_iconst (v := 0) hx hb dX2_read_134 (by decide) ?_
        refine lv_aload_n hx hb dX2_read_135 rfl (lv_at hl 1 rfl) ?_
        refine va_get (D := D) (ci := 2) (v := .ref (a 1)) (C := RX2) (T := TX2) (N := 4) hx hb htg ig_2 hown hK hP 6 (oh_wg (by decide) (sX_6 hT)) rfl 1 (by decide) (htg _ q_246) (fun _ h9 => h9) rfl dX2_read_136 ?_
        refine va_get (D := D) (ci := 0) (v := .ref (a 15)) (C := RX0) (T := TX0) (N := 8) hx hb htg ig_0 hown hK hP 1 (oh_wg (by decide) (sX_1 hT)) rfl 5 (by decide) (htg _ q_107) (fun _ h9 => h9) rfl dX2_read_139 ?_
        refine lv_iconst (v := 0) hx hb dX2_read_142 (by decide) ?_
        refine lv_aload_n hx hb dX2_read_143 rfl (lv_at hl 1 rfl) ?_
        refine va_get (D := D) (ci := 2) (v := .ref (a 34)) (C := RX2) (T := TX2) (N := 4) hx hb htg ig_2 hown hK hP 6 (oh_wg (by decide) (sX_6 hT)) rfl 3 (by decide) (htg _ q_248) (fun _ h9 => h9) rfl dX2_read_144 ?_
        refine va_alen (v := 3) hx hb hK hP 34 0 (oh_wg (by decide) (sX_34 hT)) rfl (show Int32.ofNat 3 = 3 by decide) dX2_read_147 ?_
        refine th_copyi (T := TyX a E) (Rl := fr [(5, 6), (10, 16), (33, 35)] [] C) hx hb (by rw [hml]; exact hl.1.symm) hown (htg _ q_503) (htg _ q_347) (htg _ q_346) (htg _ q_74) hK hP hD hS 34 15 (by decide) (by decide) (sX_34 hT) (sX_15 hT) (by decide) (by decide) (by decide) (by decide) (by decide) (hT.up 15 (tA_cpy (tX_34 hT) (tX_15 hT))) (fr_st hF (by decide) (by decide)) (Nat.le_of_ble_eq_true rfl) (Nat.le_of_ble_eq_true rfl) dX2_read_148 (fun C_29 H locs e_30 hT hF hP hD hS => ?_)
        have t_31 := hT
        refine lv_iload_n hx hb dX2_read_151 rfl (lv_at hl 0 rfl) ?_
        rw [hQ]
        exact W.iret (v := z55_1) hx hb hr (fun t ht hW => ⟨⟨z55_1, C_29, rfl, ⟨hT, hF, trivial⟩, ⟨by rw [ht]; exact hP, hD⟩⟩, hS.F ht⟩) hS.2.2 dX2_read_152
    · have u_32 := hq_19.2 c_20
      have s_33 := u_32
      refine lv_aload_n hx hb dX2_read_65 rfl (lv_at hl 1 rfl) ?_
      refine va_get (D := D) (ci := 2) (v := .ref (a 5)) (C := RX2) (T := TX2) (N := 4) hx hb htg ig_2 hown hK hP 6 (oh_wg (by decide) (sX_6 hT)) rfl 0 (by decide) (htg _ q_245) (fun _ h9 => h9) rfl dX2_read_66 ?_
      refine tq_V (As := []) (rest := []) (ws := (oh_W 35 a K55)) ⟨hx, hb, hml, hown, htg⟩ (c_X4_isEnd l D E G a K55 hT) (cwV 0 htg (oh_gV q_654 q_655 q_656 q_71 q_657) rfl rfl rfl pdVX4_isEnd ⟨Nat.le_of_ble_eq_true rfl, Nat.le_of_ble_eq_true rfl⟩) hK hP hG hS (va_recv hK hP (ci := 4) (q0 := 5) rfl (oh_wg (by decide) (sX_5 hT))) rfl hl.1 rfl (Nat.le_of_ble_eq_true rfl) dX2_read_69 ⟨Nat.le_of_ble_eq_true rfl, Nat.le_of_ble_eq_true rfl⟩ (fun r_34 hq_35 => ?_)
      refine lv_if_ne (tgt := 99) hx hb dX2_read_72 (by decide) (fun (c_36 : ¬ (r_34 = 0)) => ?_) (fun (c_36 : r_34 = 0) => ?_)
      · refine lv_aload_n hx hb dX2_read_99 rfl (lv_at hl 1 rfl) ?_
        refine va_get (D := D) (ci := 2) (v := .ref (a 5)) (C := RX2) (T := TX2) (N := 4) hx hb htg ig_2 hown hK hP 6 (oh_wg (by decide) (sX_6 hT)) rfl 0 (by decide) (htg _ q_245) (fun _ h9 => h9) rfl dX2_read_100 ?_
        refine tq_V (As := []) (rest := []) (ws := (oh_W 35 a K55)) ⟨hx, hb, hml, hown, htg⟩ (c_X4_isSound l D E G a K55 hT) (cwV 0 htg (oh_gV q_619 q_592 q_593 q_71 q_594) rfl rfl rfl pdVX4_isSound ⟨Nat.le_of_ble_eq_true rfl, Nat.le_of_ble_eq_true rfl⟩) hK hP hG hS (va_recv hK hP (ci := 4) (q0 := 5) rfl (oh_wg (by decide) (sX_5 hT))) rfl hl.1 rfl (Nat.le_of_ble_eq_true rfl) dX2_read_103 ⟨Nat.le_of_ble_eq_true rfl, Nat.le_of_ble_eq_true rfl⟩ (fun r_37 hq_38 => ?_)
        refine lv_if_ne (tgt := 151) hx hb dX2_read_106 (by decide) (fun (c_39 : ¬ (r_37 = 0)) => ?_) (fun (c_39 : r_37 = 0) => ?_)
        · have u_40 := hq_38.2 c_39
          have s_41 := u_40
          refine lv_iload_n hx hb dX2_read_151 rfl (lv_at hl 0 rfl) ?_
          rw [hQ]
          exact W.iret (v := z55_1) hx hb hr (fun t ht hW => ⟨⟨z55_1, K55, rfl, ⟨hT, hF, trivial⟩, ⟨by rw [ht]; exact hP, hD⟩⟩, hS.F ht⟩) hS.2.2 dX2_read_152
        · refine lv_aload_n hx hb dX2_read_109 rfl (lv_at hl 1 rfl) ?_
          refine va_get (D := D) (ci := 2) (v := .ref (a 33)) (C := RX2) (T := TX2) (N := 4) hx hb htg ig_2 hown hK hP 6 (oh_wg (by decide) (sX_6 hT)) rfl 2 (by decide) (htg _ q_247) (fun _ h9 => h9) rfl dX2_read_110 ?_
          refine lv_iconst (v := 0) hx hb dX2_read_113 (by decide) ?_
          refine lv_aload_n hx hb dX2_read_114 rfl (lv_at hl 1 rfl) ?_
          refine va_get (D := D) (ci := 2) (v := .ref (a 1)) (C := RX2) (T := TX2) (N := 4) hx hb htg ig_2 hown hK hP 6 (oh_wg (by decide) (sX_6 hT)) rfl 1 (by decide) (htg _ q_246) (fun _ h9 => h9) rfl dX2_read_115 ?_
          refine va_get (D := D) (ci := 0) (v := .ref (a 10)) (C := RX0) (T := TX0) (N := 8) hx hb htg ig_0 hown hK hP 1 (oh_wg (by decide) (sX_1 hT)) rfl 0 (by decide) (htg _ q_98) (fun _ h9 => h9) rfl dX2_read_118 ?_
          refine lv_iconst (v := 0) hx hb dX2_read_121 (by decide) ?_
          refine lv_aload_n hx hb dX2_read_122 rfl (lv_at hl 1 rfl) ?_
          refine va_get (D := D) (ci := 2) (v := .ref (a 33)) (C := RX2) (T := TX2) (N := 4) hx hb htg ig_2 hown hK hP 6 (oh_wg (by decide) (sX_6 hT)) rfl 2 (by decide) (htg _ q_247) (fun _ h9 => h9) rfl dX2_read_123 ?_
          refine va_alen (v := 4) hx hb hK hP 33 0 (oh_wg (by decide) (sX_33 hT)) rfl (show Int32.ofNat 4 = 4 by decide) dX2_read_126 ?_
          refine th_copyi (T := TyX a E) (Rl := fr [(5, 6), (10, 16), (33, 35)] [] C) hx hb (by rw [hml]; exact hl.1.symm) hown (htg _ q_503) (htg _ q_347) (htg _ q_346) (htg _ q_74) hK hP hD hS 33 10 (by decide) (by decide) (sX_33 hT) (sX_10 hT) (by decide) (by decide) (by decide) (by decide) (by decide) (hT.up 10 (tA_cpy (tX_33 hT) (tX_10 hT))) (fr_st hF (by decide) (by decide)) (Nat.le_of_ble_eq_true rfl) (Nat.le_of_ble_eq_true rfl) dX2_read_127 (fun C_42 H locs e_43 hT hF hP hD hS => ?_)
          have t_44 := hT
          refine lv_aload_n hx hb dX2_read_130 rfl (lv_at hl 1 rfl) ?_
          refine va_get (D := D) (ci := 2) (v := .ref (a 34)) (C := RX2) (T := TX2) (N := 4) hx hb htg ig_2 hown hK hP 6 (oh_wg (by decide) (sX_6 hT)) rfl 3 (by decide) (htg _ q_248) (fun _ h9 => h9) rfl dX2_read_131 ?_
          refine lv_iconst (v := 0) hx hb dX2_read_134 (by decide) ?_
          refine lv_aload_n hx hb dX2_read_135 rfl (lv_at hl 1 rfl) ?_
          refine va_get (D := D) (ci := 2) (v := .ref (a 1)) (C := RX2) (T := TX2) (N := 4) hx hb htg ig_2 hown hK hP 6 (oh_wg (by decide) (sX_6 hT)) rfl 1 (by decide) (htg _ q_246) (fun _ h9 => h9) rfl dX2_read_136 ?_
          refine va_get (D := D) (ci := 0) (v := .ref (a 15)) (C := RX0) (T := TX0) (N := 8) hx hb htg ig_0 hown hK hP 1 (oh_wg (by decide) (sX_1 hT)) rfl 5 (by decide) (htg _ q_107) (fun _ h9 => h9) rfl dX2_read_139 ?_
          refine lv_iconst (v := 0) hx hb dX2_read_142 (by decide) ?_
          refine lv_aload_n hx hb dX2_read_143 rfl (lv_at hl 1 rfl) ?_
          refine va_get (D := D) (ci := 2) (v := .ref (a 34)) (C := RX2) (T := TX2) (N := 4) hx hb htg ig_2 hown hK hP 6 (oh_wg (by decide) (sX_6 hT)) rfl 3 (by decide) (htg _ q_248) (fun _ h9 => h9) rfl dX2_read_144 ?_
          refine va_alen (v := 3) hx hb hK hP 34 0 (oh_wg (by decide) (sX_34 hT)) rfl (show Int32.ofNat 3 = 3 by decide) dX2_read_147 ?_
          refine th_copyi (T := TyX a E) (Rl := fr [(5, 6), (10, 16), (33, 35)] [] C) hx hb (by rw [hml]; exact hl.1.symm) hown (htg _ q_503) (htg _ q_347) (htg _ q_346) (htg _ q_74) hK hP hD hS 34 15 (by decide) (by decide) (sX_34 hT) (sX_15 hT) (by decide) (by decide) (by decide) (by decide) (by decide) (hT.up 15 (tA_cpy (tX_34 hT) (tX_15 hT))) (fr_st hF (by decide) (by decide)) (Nat.le_of_ble_eq_true rfl) (Nat.le_of_ble_eq_true rfl) dX2_read_148 (fun C_45 H locs e_46 hT hF hP hD hS => ?_)
          have t_47 := hT
          refine lv_iload_n hx hb dX2_read_151 rfl (lv_at hl 0 rfl) ?_
          rw [hQ]
          exact W.iret (v := z55_1) hx hb hr (fun t ht hW => ⟨⟨z55_1, C_45, rfl, ⟨hT, hF, trivial⟩, ⟨by rw [ht]; exact hP, hD⟩⟩, hS.F ht⟩) hS.2.2 dX2_read_152
      · refine lv_iload_n hx hb dX2_read_75 rfl (lv_at hl 0 rfl) ?_
        refine lv_sipush (v := 250) hx hb dX2_read_76 (by decide) ?_
        refine lv_icmp_ge (tgt := 99) hx hb dX2_read_79 (by decide) (fun (c_48 : (250 : Int32) ≤ z55_1) => ?_) (fun (c_48 : ¬ ((250 : Int32) ≤ z55_1)) => ?_)
        · refine lv_aload_n hx hb dX2_read_99 rfl (lv_at hl 1 rfl) ?_
          refine va_get (D := D) (ci := 2) (v := .ref (a 5)) (C := RX2) (T := TX2) (N := 4) hx hb htg ig_2 hown hK hP 6 (oh_wg (by decide) (sX_6 hT)) rfl 0 (by decide) (htg _ q_245) (fun _ h9 => h9) rfl dX2_read_100 ?_
          refine tq_V (As := []) (rest := []) (ws := (oh_W 35 a K55)) ⟨hx, hb, hml, hown, htg⟩ (c_X4_isSound l D E G a K55 hT) (cwV 0 htg (oh_gV q_619 q_592 q_593 q_71 q_594) rfl rfl rfl pdVX4_isSound ⟨Nat.le_of_ble_eq_true rfl, Nat.le_of_ble_eq_true rfl⟩) hK hP hG hS (va_recv hK hP (ci := 4) (q0 := 5) rfl (oh_wg (by decide) (sX_5 hT))) rfl hl.1 rfl (Nat.le_of_ble_eq_true rfl) dX2_read_103 ⟨Nat.le_of_ble_eq_true rfl, Nat.le_of_ble_eq_true rfl⟩ (fun r_49 hq_50 => ?_)
          refine lv_if_ne (tgt := 151) hx hb dX2_read_106 (by decide) (fun (c_51 : ¬ (r_49 = 0)) => ?_) (fun (c_51 : r_49 = 0) => ?_)
          · have u_52 := hq_50.2 c_51
            have s_53 := u_52
            refine lv_iload_n hx hb dX2_read_151 rfl (lv_at hl 0 rfl) ?_
            rw [hQ]
            exact W.iret (v := z55_1) hx hb hr (fun t ht hW => ⟨⟨z55_1, K55, rfl, ⟨hT, hF, trivial⟩, ⟨by rw [ht]; exact hP, hD⟩⟩, hS.F ht⟩) hS.2.2 dX2_read_152
          · refine lv_aload_n hx hb dX2_read_109 rfl (lv_at hl 1 rfl) ?_
            refine va_get (D := D) (ci := 2) (v := .ref (a 33)) (C := RX2) (T := TX2) (N := 4) hx hb htg ig_2 hown hK hP 6 (oh_wg (by decide) (sX_6 hT)) rfl 2 (by decide) (htg _ q_247) (fun _ h9 => h9) rfl dX2_read_110 ?_
            refine lv_iconst (v := 0) hx hb dX2_read_113 (by decide) ?_
            refine lv_aload_n hx hb dX2_read_114 rfl (lv_at hl 1 rfl) ?_
            refine va_get (D := D) (ci := 2) (v := .ref (a 1)) (C := RX2) (T := TX2) (N := 4) hx hb htg ig_2 hown hK hP 6 (oh_wg (by decide) (sX_6 hT)) rfl 1 (by decide) (htg _ q_246) (fun _ h9 => h9) rfl dX2_read_115 ?_
            refine va_get (D := D) (ci := 0) (v := .ref (a 10)) (C := RX0) (T := TX0) (N := 8) hx hb htg ig_0 hown hK hP 1 (oh_wg (by decide) (sX_1 hT)) rfl 0 (by decide) (htg _ q_98) (fun _ h9 => h9) rfl dX2_read_118 ?_
            refine lv_iconst (v := 0) hx hb dX2_read_121 (by decide) ?_
            refine lv_aload_n hx hb dX2_read_122 rfl (lv_at hl 1 rfl) ?_
            refine va_get (D := D) (ci := 2) (v := .ref (a 33)) (C := RX2) (T := TX2) (N := 4) hx hb htg ig_2 hown hK hP 6 (oh_wg (by decide) (sX_6 hT)) rfl 2 (by decide) (htg _ q_247) (fun _ h9 => h9) rfl dX2_read_123 ?_
            refine va_alen (v := 4) hx hb hK hP 33 0 (oh_wg (by decide) (sX_33 hT)) rfl (show Int32.ofNat 4 = 4 by decide) dX2_read_126 ?_
            refine th_copyi (T := TyX a E) (Rl := fr [(5, 6), (10, 16), (33, 35)] [] C) hx hb (by rw [hml]; exact hl.1.symm) hown (htg _ q_503) (htg _ q_347) (htg _ q_346) (htg _ q_74) hK hP hD hS 33 10 (by decide) (by decide) (sX_33 hT) (sX_10 hT) (by decide) (by decide) (by decide) (by decide) (by decide) (hT.up 10 (tA_cpy (tX_33 hT) (tX_10 hT))) (fr_st hF (by decide) (by decide)) (Nat.le_of_ble_eq_true rfl) (Nat.le_of_ble_eq_true rfl) dX2_read_127 (fun C_54 H locs e_55 hT hF hP hD hS => ?_)
            have t_56 := hT
            refine lv_aload_n hx hb dX2_read_130 rfl (lv_at hl 1 rfl) ?_
            refine va_get (D := D) (ci := 2) (v := .ref (a 34)) (C := RX2) (T := TX2) (N := 4) hx hb htg ig_2 hown hK hP 6 (oh_wg (by decide) (sX_6 hT)) rfl 3 (by decide) (htg _ q_248) (fun _ h9 => h9) rfl dX2_read_131 ?_
            refine lv_iconst (v := 0) hx hb dX2_read_134 (by decide) ?_
            refine lv_aload_n hx hb dX2_read_135 rfl (lv_at hl 1 rfl) ?_
            refine va_get (D := D) (ci := 2) (v := .ref (a 1)) (C := RX2) (T := TX2) (N := 4) hx hb htg ig_2 hown hK hP 6 (oh_wg (by decide) (sX_6 hT)) rfl 1 (by decide) (htg _ q_246) (fun _ h9 => h9) rfl dX2_read_136 ?_
            refine va_get (D := D) (ci := 0) (v := .ref (a 15)) (C := RX0) (T := TX0) (N := 8) hx hb htg ig_0 hown hK hP 1 (oh_wg (by decide) (sX_1 hT)) rfl 5 (by decide) (htg _ q_107) (fun _ h9 => h9) rfl dX2_read_139 ?_
            refine lv_iconst (v := 0) hx hb dX2_read_142 (by decide) ?_
            refine lv_aload_n hx hb dX2_read_143 rfl (lv_at hl 1 rfl) ?_
            refine va_get (D := D) (ci := 2) (v := .ref (a 34)) (C := RX2) (T := TX2) (N := 4) hx hb htg ig_2 hown hK hP 6 (oh_wg (by decide) (sX_6 hT)) rfl 3 (by decide) (htg _ q_248) (fun _ h9 => h9) rfl dX2_read_144 ?_
            refine va_alen (v := 3) hx hb hK hP 34 0 (oh_wg (by decide) (sX_34 hT)) rfl (show Int32.ofNat 3 = 3 by decide) dX2_read_147 ?_
            refine th_copyi (T := TyX a E) (Rl := fr [(5, 6), (10, 16), (33, 35)] [] C) hx hb (by rw [hml]; exact hl.1.symm) hown (htg _ q_503) (htg _ q_347) (htg _ q_346) (htg _ q_74) hK hP hD hS 34 15 (by decide) (by decide) (sX_34 hT) (sX_15 hT) (by decide) (by decide) (by decide) (by decide) (by decide) (hT.up 15 (tA_cpy (tX_34 hT) (tX_15 hT))) (fr_st hF (by decide) (by decide)) (Nat.le_of_ble_eq_true rfl) (Nat.le_of_ble_eq_true rfl) dX2_read_148 (fun C_57 H locs e_58 hT hF hP hD hS => ?_)
            have t_59 := hT
            refine lv_iload_n hx hb dX2_read_151 rfl (lv_at hl 0 rfl) ?_
            rw [hQ]
            exact W.iret (v := z55_1) hx hb hr (fun t ht hW => ⟨⟨z55_1, C_57, rfl, ⟨hT, hF, trivial⟩, ⟨by rw [ht]; exact hP, hD⟩⟩, hS.F ht⟩) hS.2.2 dX2_read_152
        · refine lv_aload_n hx hb dX2_read_82 rfl (lv_at hl 1 rfl) ?_
          refine va_get (D := D) (ci := 2) (v := .ref (a 5)) (C := RX2) (T := TX2) (N := 4) hx hb htg ig_2 hown hK hP 6 (oh_wg (by decide) (sX_6 hT)) rfl 0 (by decide) (htg _ q_245) (fun _ h9 => h9) rfl dX2_read_83 ?_
          refine tm_Vv (As := []) (rest := []) ⟨hx, hb, hml, hown, htg⟩ (c_X4_takeSign l D E G _ a K55 hT) (cwV 0 htg (oh_gV q_658 q_659 q_660 q_71 q_661) rfl rfl rfl pdVX4_takeSign ⟨Nat.le_of_ble_eq_true rfl, Nat.le_of_ble_eq_true rfl⟩) hK hP hD hG hS hA (va_recv hK hP (ci := 4) (q0 := 5) rfl (oh_wg (by decide) (sX_5 hT))) rfl hl.1 rfl (Nat.le_of_ble_eq_true rfl) dX2_read_86 ⟨Nat.le_of_ble_eq_true rfl, Nat.le_of_ble_eq_true rfl⟩ (fun C_61 H locs hq_62 hP hD hS => ?_)
          obtain ⟨hT, f_63, hq_62⟩ := hq_62
          have hF := fr_tr hF f_63 (by decide) (by decide)
          refine W.widen (k := 0) (n := 0) (Nat.le_refl _) (Nat.le_refl _) ?_
          have t_64 := hT
          refine lv_aload_n hx hb dX2_read_89 rfl (lv_at hl 1 rfl) ?_
          refine tm_Vv (As := []) (rest := []) ⟨hx, hb, hml, hown, htg⟩ (c_X2_readStatement l D E G _ a C_61 hT) (cwV 0 htg (oh_gV q_512 q_514 q_6 q_72 q_515) rfl rfl rfl pdVX2_readStatement ⟨Nat.le_of_ble_eq_true rfl, Nat.le_of_ble_eq_true rfl⟩) hK hP hD hG hS hA (va_recv hK hP (ci := 2) (q0 := 6) rfl (oh_wg (by decide) (sX_6 hT))) rfl hl.1 rfl (Nat.le_of_ble_eq_true rfl) dX2_read_90 ⟨Nat.le_of_ble_eq_true rfl, Nat.le_of_ble_eq_true rfl⟩ (fun C_66 H locs hq_67 hP hD hS => ?_)
          obtain ⟨hT, f_68, hq_67⟩ := hq_67
          have hF := fr_tr hF f_68 (by decide) (by decide)
          refine W.widen (k := 0) (n := 0) (Nat.le_refl _) (Nat.le_refl _) ?_
          have t_69 := hT
          refine lv_iinc (v := z55_1 + 1) (lv' := [(1, .int (z55_1 + 1)), (0, .ref (a 6))]) hx hb dX2_read_93 hl (k := 0) rfl (by rfl) (by decide) rfl (fun ls hl => ?_)
          refine lv_goto (tgt := 55) hx hb dX2_read_96 (by decide) ?_
          exact ih_55 _ (hd_55 ▸ mu_up 250 (rn_ltu (u' := 249) (Int32.not_le.mp c_48) hz55_1 (rg_c (v := 250) (lo := 250) (hi := 250) (by decide)) (by decide)) (by decide)) C_66 (z55_1 + 1) _ _ ls rfl (rg_w (rg_add (lo := 2) (hi := 250) (rn_ltu (u' := 249) (Int32.not_le.mp c_48) hz55_1 (rg_c (v := 250) (lo := 250) (hi := 250) (by decide)) (by decide)) (rg_c (v := 1) (lo := 1) (hi := 1) (by decide)) (by decide)) (by decide)) hT hF (fr_tr (fr_tr hLF_55 f_63 (by decide) (by decide)) f_68 (by decide) (by decide)) hP hD hS (lv_sub hl [0, 1] rfl)
  exact L_55 _ C_13 1 _ _ ls rfl (rg_w (rg_c (v := 1) (lo := 1) (hi := 1) (by decide)) (by decide)) hT hF fr_rf hP hD hS (lv_sub hl [0, 1] rfl)

def oh_feed (s n : Int32) : Int32 := if ¬ ((1 : Int32) ≤ n ∧ n ≤ 4) then -2 else if (250 : Int32) < s + n then -6 else s + n
theorem oh_fd1 {s n r : Int32} (e : r = -2) (h : ¬ ((1 : Int32) ≤ n ∧ n ≤ 4)) : r = oh_feed s n := by rw [e]; exact (if_pos h).symm
theorem oh_fd2 {s n r : Int32} (e : r = -6) (h1 : (1 : Int32) ≤ n) (h2 : n ≤ 4) (c : (250 : Int32) < s + n) : r = oh_feed s n := by
  rw [e]
  unfold oh_feed
  rw [if_neg (fun q => q ⟨h1, h2⟩), if_pos c]
theorem oh_adn {s n : Int32} (hs : rg s 0 250) (h1 : (1 : Int32) ≤ n) (h2 : n ≤ 4) : (s + n).toInt = s.toInt + n.toInt := by
  have a1 := Int32.le_iff_toInt_le.mp h1
  have a2 := Int32.le_iff_toInt_le.mp h2
  have b1 : (1 : Int32).toInt = 1 := rfl
  have b2 : (4 : Int32).toInt = 4 := rfl
  rw [Int32.toInt_add]
  exact oh_bmod (by have := hs.1; omega) (by have := hs.2; omega)
theorem oh_fd3 {s n r : Int32} (hs : rg s 0 250) (h1 : (1 : Int32) ≤ n) (h2 : n ≤ 4) (c : s + n ≤ (250 : Int32)) (e : r.toInt = s.toInt + n.toInt) : r = oh_feed s n := by
  unfold oh_feed
  rw [if_neg (fun q => q ⟨h1, h2⟩), if_neg (fun q => absurd q (Int32.not_lt.mpr c))]
  exact Int32.toInt_inj.mp (by rw [e, oh_adn hs h1 h2])
def oh_fsz (s n : Int32) : Int32 := if ¬ ((1 : Int32) ≤ n ∧ n ≤ 4) then s else if (250 : Int32) < s + n then s else s + n
theorem oh_fz1 {s n r : Int32} (e : r = s) (h : ¬ ((1 : Int32) ≤ n ∧ n ≤ 4)) : r = oh_fsz s n := by rw [e]; exact (if_pos h).symm
theorem oh_fz2 {s n r : Int32} (e : r = s) (h1 : (1 : Int32) ≤ n) (h2 : n ≤ 4) (c : (250 : Int32) < s + n) : r = oh_fsz s n := by
  rw [e]
  unfold oh_fsz
  rw [if_neg (fun q => q ⟨h1, h2⟩), if_pos c]
theorem oh_fz3 {s n r : Int32} (hs : rg s 0 250) (h1 : (1 : Int32) ≤ n) (h2 : n ≤ 4) (c : s + n ≤ (250 : Int32)) (e : r.toInt = s.toInt + n.toInt) : r = oh_fsz s n := by
  unfold oh_fsz
  rw [if_neg (fun q => q ⟨h1, h2⟩), if_neg (fun q => absurd q (Int32.not_lt.mpr c))]
  exact Int32.toInt_inj.mp (by rw [e, oh_adn hs h1 h2])
theorem oh_fdp {s n : Int32} (hs : rg s 0 250) (h1 : (1 : Int32) ≤ n) (h2 : n ≤ 4) (c : s + n ≤ (250 : Int32)) : s.toInt + n.toInt ≤ 250 := by
  have := Int32.le_iff_toInt_le.mp c
  rw [oh_adn hs h1 h2] at this
  exact this

set_option maxHeartbeats 4000000 in
set_option maxRecDepth 100000 in
theorem c_X6_feed (l : Launch) (D : va_G) (E : Nat → ClassId) (G : Nat → Nat) (sz : Nat) (a : Nat → Nat) (C : Nat → va_E) (hT : TyX a E C) (x1 : Int32) (x2 : Int32) : Met l yX6_feed (oh_w yX6_feed cX6_feed 3 (some .int)) ({ frames := 2, cells := 0, slots := 0, locals := 44 }) (oh_Pm D E G [.ref (a 0), .int x1, .int x2] (oh_W 35 a C) sz) (va_Qi (fun r (u : Nat → va_E) => TyX a E u ∧ fr [(5, 6), (7, 8), (32, 33)] [] C u ∧ (r = oh_feed (gi (C 5) 1) x2) ∧ (gi (u 5) 1 = oh_fsz (gi (C 5) 1) x2)) (oh_B D (va_A (oh_W 35 a C) sz) (fun u => oh_W 35 a u)) (va_A (oh_W 35 a C) sz)) 0 0 (va_A (oh_W 35 a C) sz) := by
  refine Met.ofW (cc := cX6_feed) (maxL := 3) (ret := (some .int)) (by decide) rfl ?_
  intro p e s m args below meth c s₁ B hml hv
  obtain ⟨rfl, hsz, hP, hK, hD0, hG⟩ := hv
  have hx := B.exec
  have hb := B.bytes
  have hr := B.returns
  have hts := atoms_spec (ws := (oh_w yX6_feed cX6_feed 3 (some .int))) B.pre
  have htg : ∀ w ∈ oh_t, w.before _ s = true := fun w h => hts w (List.mem_cons_of_mem _ h)
  have hown : s.vm.findClass RX6 = some m.cls := findClass_of_methodNamed B.named
  have hlocks := B.notSynchronized
  have hT0 := hT
  subst hsz
  have hD := hD0.self (sz := s.heap.size)
  generalize hAe : va_A (oh_W 35 a C) s.heap.size = A at hD hG ⊢
  have hA : ∀ q : Nat, s.heap.size ≤ q → A q := fun q h => by rw [← hAe]; exact Or.inr h
  have hS : va_S A s.heap s.heap [] := va_S.rf
  have hF : fr [(5, 6), (7, 8), (32, 33)] [] C C := fr_rf
  have hl := lv_entry ([.ref (a 0), .int x1, .int x2]) (n := 3) (Nat.le_of_ble_eq_true rfl)
  rw [lg_entry_eq]
  generalize (lg_sl ([.ref (a 0), .int x1, .int x2]) ++ List.replicate (3 - (lg_sl ([.ref (a 0), .int x1, .int x2])).length) Slot.unset).toArray = ls at hl ⊢
  have hl : lv_has ls 3 [(0, .ref (a 0)), (1, .int x1), (2, .int x2)] := hl
  refine oh_genQ (fun Q hQ => ?_)
  refine lv_iload_n hx hb dX6_feed_0 rfl (lv_at hl 2 rfl) ?_
  refine lv_iconst (v := 1) hx hb dX6_feed_1 (by decide) ?_
  refine lv_iconst (v := 4) hx hb dX6_feed_2 (by decide) ?_
  refine tq_S (As := [.int x2, .int 1, .int 4]) (rest := []) (ws := []) ⟨hx, hb, hml, hown, htg⟩ (c_X6_within l D E G x2 (1 : Int32) (4 : Int32)) (va_cwS 3 htg (oh_gS q_293 q_294 q_66 q_295) rfl rfl rfl pdX6_within ⟨Nat.le_of_ble_eq_true rfl, Nat.le_of_ble_eq_true rfl⟩) hK va_nil hG hS rfl hl.1 rfl (Nat.le_of_ble_eq_true rfl) dX6_feed_3 ⟨Nat.le_of_ble_eq_true rfl, Nat.le_of_ble_eq_true rfl⟩ (fun r_1 hq_2 => ?_)
  refine lv_if_ne (tgt := 16) hx hb dX6_feed_6 (by decide) (fun (c_3 : ¬ (r_1 = 0)) => ?_) (fun (c_3 : r_1 = 0) => ?_)
  · have u_4 := hq_2.2.1 c_3
    refine lv_aload_n hx hb dX6_feed_16 rfl (lv_at hl 0 rfl) ?_
    refine va_get (D := D) (ci := 6) (v := .ref (a 5)) (C := RX6) (T := TX6) (N := 9) hx hb htg ig_6 hown hK hP 0 (oh_wg (by decide) (sX_0 hT)) rfl 5 (by decide) (htg _ q_263) (fun _ h9 => h9) rfl dX6_feed_17 ?_
    refine va_get (D := D) (ci := 4) (v := .int (gi (C 5) 1)) (C := RX4) (T := TX4) (N := 6) hx hb htg ig_4 hown hK hP 5 (oh_wg (by decide) (sX_5 hT)) rfl 1 (by decide) (htg _ q_219) (fun _ h9 => h9) rfl dX6_feed_20 ?_
    refine lv_iload_n hx hb dX6_feed_23 rfl (lv_at hl 2 rfl) ?_
    refine lv_iadd hx hb dX6_feed_24 ?_
    refine lv_sipush (v := 250) hx hb dX6_feed_25 (by decide) ?_
    refine lv_icmp_le (tgt := 38) hx hb dX6_feed_28 (by decide) (fun (c_5 : ((gi (C 5) 1) + x2) ≤ 250) => ?_) (fun (c_5 : ¬ (((gi (C 5) 1) + x2) ≤ 250)) => ?_)
    · refine lv_aload_n hx hb dX6_feed_38 rfl (lv_at hl 0 rfl) ?_
      refine va_get (D := D) (ci := 6) (v := .ref (a 5)) (C := RX6) (T := TX6) (N := 9) hx hb htg ig_6 hown hK hP 0 (oh_wg (by decide) (sX_0 hT)) rfl 5 (by decide) (htg _ q_263) (fun _ h9 => h9) rfl dX6_feed_39 ?_
      refine lv_iload_n hx hb dX6_feed_42 rfl (lv_at hl 1 rfl) ?_
      refine lv_iload_n hx hb dX6_feed_43 rfl (lv_at hl 2 rfl) ?_
      refine tm_Vv (As := [.int x1, .int x2]) (rest := []) ⟨hx, hb, hml, hown, htg⟩ (c_X4_append l D E G _ a C hT x1 x2 (rg_w (rn_leu u_4.2 (rn_lel u_4.1 (rg_c (v := 1) (lo := 1) (hi := 1) (by decide)) (rg_any _)) (rg_c (v := 4) (lo := 4) (hi := 4) (by decide))) (by decide)) (oh_fdp (fX_5_1 hT) u_4.1 u_4.2 c_5)) (cwV 2 htg (oh_gV q_487 q_488 q_489 q_71 q_490) rfl rfl rfl pdVX4_append ⟨Nat.le_of_ble_eq_true rfl, Nat.le_of_ble_eq_true rfl⟩) hK hP hD hG hS hA (va_recv hK hP (ci := 4) (q0 := 5) rfl (oh_wg (by decide) (sX_5 hT))) rfl hl.1 rfl (Nat.le_of_ble_eq_true rfl) dX6_feed_44 ⟨Nat.le_of_ble_eq_true rfl, Nat.le_of_ble_eq_true rfl⟩ (fun C_7 H locs hq_8 hP hD hS => ?_)
      obtain ⟨hT, f_9, hq_8⟩ := hq_8
      have hF := fr_tr hF f_9 (by decide) (by decide)
      refine W.widen (k := 0) (n := 0) (Nat.le_refl _) (Nat.le_refl _) ?_
      have t_10 := hT
      refine lv_aload_n hx hb dX6_feed_47 rfl (lv_at hl 0 rfl) ?_
      refine va_get (D := D) (ci := 6) (v := .ref (a 5)) (C := RX6) (T := TX6) (N := 9) hx hb htg ig_6 hown hK hP 0 (oh_wg (by decide) (sX_0 hT)) rfl 5 (by decide) (htg _ q_263) (fun _ h9 => h9) rfl dX6_feed_48 ?_
      refine va_get (D := D) (ci := 4) (v := .int (gi (C_7 5) 1)) (C := RX4) (T := TX4) (N := 6) hx hb htg ig_4 hown hK hP 5 (oh_wg (by decide) (sX_5 hT)) rfl 1 (by decide) (htg _ q_219) (fun _ h9 => h9) rfl dX6_feed_51 ?_
      rw [hQ]
      exact W.iret (v := gi (C_7 5) 1) hx hb hr (fun t ht hW => ⟨⟨gi (C_7 5) 1, C_7, rfl, ⟨hT, hF, ⟨(oh_fd3 (fX_5_1 hT0) u_4.1 u_4.2 c_5 hq_8), (oh_fz3 (fX_5_1 hT0) u_4.1 u_4.2 c_5 hq_8)⟩⟩, ⟨by rw [ht]; exact hP, hD⟩⟩, hS.F ht⟩) hS.2.2 dX6_feed_54
    · refine lv_aload_n hx hb dX6_feed_31 rfl (lv_at hl 0 rfl) ?_
      refine lv_bipush (v := (-6)) hx hb dX6_feed_32 (by decide) ?_
      refine tm_V (As := [.int (-6)]) (rest := []) ⟨hx, hb, hml, hown, htg⟩ (c_X6_refuse l D E G _ a C hT ((-6) : Int32)) (cwV 1 htg (oh_gV q_296 q_298 q_0 q_66 q_299) rfl rfl rfl pdVX6_refuse ⟨Nat.le_of_ble_eq_true rfl, Nat.le_of_ble_eq_true rfl⟩) hK hP hD hG hS hA (va_recv hK hP (ci := 6) (q0 := 0) rfl (oh_wg (by decide) (sX_0 hT))) rfl hl.1 rfl (Nat.le_of_ble_eq_true rfl) dX6_feed_34 ⟨Nat.le_of_ble_eq_true rfl, Nat.le_of_ble_eq_true rfl⟩ (fun r_11 C_12 H locs hq_13 hP hD hS => ?_)
      obtain ⟨hT, f_14, hq_13⟩ := hq_13
      have hF := fr_tr hF f_14 (by decide) (by decide)
      refine W.widen (k := 0) (n := 0) (Nat.le_refl _) (Nat.le_refl _) ?_
      have t_15 := hT
      rw [hQ]
      exact W.iret (v := r_11) hx hb hr (fun t ht hW => ⟨⟨r_11, C_12, rfl, ⟨hT, hF, ⟨(oh_fd2 hq_13 u_4.1 u_4.2 (Int32.not_le.mp c_5)), (oh_fz2 (congrArg (fun z => gi z 1) (f_14.1 5 rfl (by decide))) u_4.1 u_4.2 (Int32.not_le.mp c_5))⟩⟩, ⟨by rw [ht]; exact hP, hD⟩⟩, hS.F ht⟩) hS.2.2 dX6_feed_37
  · have u_16 := hq_2.2.2 c_3
    refine lv_aload_n hx hb dX6_feed_9 rfl (lv_at hl 0 rfl) ?_
    refine lv_bipush (v := (-2)) hx hb dX6_feed_10 (by decide) ?_
    refine tm_V (As := [.int (-2)]) (rest := []) ⟨hx, hb, hml, hown, htg⟩ (c_X6_refuse l D E G _ a C hT ((-2) : Int32)) (cwV 1 htg (oh_gV q_296 q_298 q_0 q_66 q_299) rfl rfl rfl pdVX6_refuse ⟨Nat.le_of_ble_eq_true rfl, Nat.le_of_ble_eq_true rfl⟩) hK hP hD hG hS hA (va_recv hK hP (ci := 6) (q0 := 0) rfl (oh_wg (by decide) (sX_0 hT))) rfl hl.1 rfl (Nat.le_of_ble_eq_true rfl) dX6_feed_12 ⟨Nat.le_of_ble_eq_true rfl, Nat.le_of_ble_eq_true rfl⟩ (fun r_17 C_18 H locs hq_19 hP hD hS => ?_)
    obtain ⟨hT, f_20, hq_19⟩ := hq_19
    have hF := fr_tr hF f_20 (by decide) (by decide)
    refine W.widen (k := 0) (n := 0) (Nat.le_refl _) (Nat.le_refl _) ?_
    have t_21 := hT
    rw [hQ]
    exact W.iret (v := r_17) hx hb hr (fun t ht hW => ⟨⟨r_17, C_18, rfl, ⟨hT, hF, ⟨(oh_fd1 hq_19 u_16), (oh_fz1 (congrArg (fun z => gi z 1) (f_20.1 5 rfl (by decide))) u_16)⟩⟩, ⟨by rw [ht]; exact hP, hD⟩⟩, hS.F ht⟩) hS.2.2 dX6_feed_15

set_option maxHeartbeats 4000000 in
set_option maxRecDepth 100000 in
theorem c_X6_land (l : Launch) (D : va_G) (E : Nat → ClassId) (G : Nat → Nat) (sz : Nat) (a : Nat → Nat) (C : Nat → va_E) (hT : TyX a E C) : Met l yX6_land (oh_w yX6_land cX6_land 2 (some .int)) ({ frames := 10, cells := 0, slots := 0, locals := 220 }) (oh_Pm D E G [.ref (a 0)] (oh_W 35 a C) sz) (va_Qi (fun r (u : Nat → va_E) => TyX a E u ∧ fr [(5, 6), (7, 8), (10, 16), (33, 35)] [] C u ∧ (gi (u 5) 1 = 0)) (oh_B D (va_A (oh_W 35 a C) sz) (fun u => oh_W 35 a u)) (va_A (oh_W 35 a C) sz)) 0 0 (va_A (oh_W 35 a C) sz) := by
  refine Met.ofW (cc := cX6_land) (maxL := 2) (ret := (some .int)) (by decide) rfl ?_
  intro p e s m args below meth c s₁ B hml hv
  obtain ⟨rfl, hsz, hP, hK, hD0, hG⟩ := hv
  have hx := B.exec
  have hb := B.bytes
  have hr := B.returns
  have hts := atoms_spec (ws := (oh_w yX6_land cX6_land 2 (some .int))) B.pre
  have htg : ∀ w ∈ oh_t, w.before _ s = true := fun w h => hts w (List.mem_cons_of_mem _ h)
  have hown : s.vm.findClass RX6 = some m.cls := findClass_of_methodNamed B.named
  have hlocks := B.notSynchronized
  have hT0 := hT
  subst hsz
  have hD := hD0.self (sz := s.heap.size)
  generalize hAe : va_A (oh_W 35 a C) s.heap.size = A at hD hG ⊢
  have hA : ∀ q : Nat, s.heap.size ≤ q → A q := fun q h => by rw [← hAe]; exact Or.inr h
  have hS : va_S A s.heap s.heap [] := va_S.rf
  have hF : fr [(5, 6), (7, 8), (10, 16), (33, 35)] [] C C := fr_rf
  have hl := lv_entry ([.ref (a 0)]) (n := 2) (Nat.le_of_ble_eq_true rfl)
  rw [lg_entry_eq]
  generalize (lg_sl ([.ref (a 0)]) ++ List.replicate (2 - (lg_sl ([.ref (a 0)])).length) Slot.unset).toArray = ls at hl ⊢
  have hl : lv_has ls 2 [(0, .ref (a 0))] := hl
  refine oh_genQ (fun Q hQ => ?_)
  refine lv_aload_n hx hb dX6_land_0 rfl (lv_at hl 0 rfl) ?_
  refine va_get (D := D) (ci := 6) (v := .ref (a 6)) (C := RX6) (T := TX6) (N := 9) hx hb htg ig_6 hown hK hP 0 (oh_wg (by decide) (sX_0 hT)) rfl 6 (by decide) (htg _ q_264) (fun _ h9 => h9) rfl dX6_land_1 ?_
  refine tm_V (As := []) (rest := []) ⟨hx, hb, hml, hown, htg⟩ (c_X2_read l D E G _ a C hT) (cwV 0 htg (oh_gV q_499 q_500 q_501 q_72 q_502) rfl rfl rfl pdVX2_read ⟨Nat.le_of_ble_eq_true rfl, Nat.le_of_ble_eq_true rfl⟩) hK hP hD hG hS hA (va_recv hK hP (ci := 2) (q0 := 6) rfl (oh_wg (by decide) (sX_6 hT))) rfl hl.1 rfl (Nat.le_of_ble_eq_true rfl) dX6_land_4 ⟨Nat.le_of_ble_eq_true rfl, Nat.le_of_ble_eq_true rfl⟩ (fun r_1 C_2 H locs hq_3 hP hD hS => ?_)
  obtain ⟨hT, f_4, hq_3⟩ := hq_3
  have hF := fr_tr hF f_4 (by decide) (by decide)
  refine W.widen (k := 0) (n := 0) (Nat.le_refl _) (Nat.le_refl _) ?_
  have t_5 := hT
  refine lv_istore_n (lv' := [(1, .int r_1), (0, .ref (a 0))]) hx hb dX6_land_7 rfl hl (by decide) rfl (fun ls hl => ?_)
  refine lv_aload_n hx hb dX6_land_8 rfl (lv_at hl 1 rfl) ?_
  refine va_get (D := D) (ci := 6) (v := .ref (a 5)) (C := RX6) (T := TX6) (N := 9) hx hb htg ig_6 hown hK hP 0 (oh_wg (by decide) (sX_0 hT)) rfl 5 (by decide) (htg _ q_263) (fun _ h9 => h9) rfl dX6_land_9 ?_
  refine lv_iconst (v := 0) hx hb dX6_land_12 (by decide) ?_
  refine th_put (Tp := TyX a E) (Rl := fr [(5, 6), (7, 8), (10, 16), (33, 35)] [] C) (ci := 4) (v := .int 0) (ty := .int) (CC := RX4) (T := TX4) (N := 6) hx hb htg ig_4 tyX4 tyX4_ok nmX4 hown hK hP hD hS 5 (by decide) (sX_5 hT) rfl 1 (by decide) (htg _ q_219) (fun _ h9 => h9) rfl (by decide +kernel) rfl rfl (Nat.le_of_ble_eq_true rfl) (hT.up 5 ⟨rfl, (rg_w (rg_c (v := 0) (lo := 0) (hi := 0) (by decide)) (by decide)), (fX_5_2 hT), (fX_5_4 hT), (fX_5_5 hT)⟩) (fr_st hF (by decide) (by decide)) dX6_land_13 (fun C_6 H locs e_7 hT hF hP hD hS => ?_)
  have t_8 := hT
  refine lv_aload_n hx hb dX6_land_16 rfl (lv_at hl 1 rfl) ?_
  refine va_get (D := D) (ci := 6) (v := .ref (a 5)) (C := RX6) (T := TX6) (N := 9) hx hb htg ig_6 hown hK hP 0 (oh_wg (by decide) (sX_0 hT)) rfl 5 (by decide) (htg _ q_263) (fun _ h9 => h9) rfl dX6_land_17 ?_
  refine va_get (D := D) (ci := 4) (v := .int (gi (C_2 5) 2)) (C := RX4) (T := TX4) (N := 6) hx hb htg ig_4 hown hK hP 5 (oh_wg (by decide) (sX_5 hT)) rfl 2 (by decide) (htg _ q_221) (fun _ h9 => h9) (oh_fv (c := C_6 5) (j := 2) rfl (show gi (C_6 5) 2 = gi (C_2 5) 2 by rw [e_7]; rfl)) dX6_land_20 ?_
  refine lv_iconst (v := (-1)) hx hb dX6_land_23 (by decide) ?_
  refine lv_icmp_eq (tgt := 45) hx hb dX6_land_24 (by decide) (fun (c_9 : (gi (C_2 5) 2) = (-1)) => ?_) (fun (c_9 : ¬ ((gi (C_2 5) 2) = (-1))) => ?_)
  · refine lv_iload_n hx hb dX6_land_45 rfl (lv_at hl 0 rfl) ?_
    rw [hQ]
    exact W.iret (v := r_1) hx hb hr (fun t ht hW => ⟨⟨r_1, C_6, rfl, ⟨hT, hF, (show gi (C_6 5) 1 = (0 : Int32) by rw [e_7]; rfl)⟩, ⟨by rw [ht]; exact hP, hD⟩⟩, hS.F ht⟩) hS.2.2 dX6_land_46
  · refine lv_aload_n hx hb dX6_land_27 rfl (lv_at hl 1 rfl) ?_
    refine lv_bipush (v := (-2)) hx hb dX6_land_28 (by decide) ?_
    refine tm_V (As := [.int (-2)]) (rest := []) ⟨hx, hb, hml, hown, htg⟩ (c_X6_refuse l D E G _ a C_6 hT ((-2) : Int32)) (cwV 1 htg (oh_gV q_296 q_298 q_0 q_66 q_299) rfl rfl rfl pdVX6_refuse ⟨Nat.le_of_ble_eq_true rfl, Nat.le_of_ble_eq_true rfl⟩) hK hP hD hG hS hA (va_recv hK hP (ci := 6) (q0 := 0) rfl (oh_wg (by decide) (sX_0 hT))) rfl hl.1 rfl (Nat.le_of_ble_eq_true rfl) dX6_land_30 ⟨Nat.le_of_ble_eq_true rfl, Nat.le_of_ble_eq_true rfl⟩ (fun r_10 C_11 H locs hq_12 hP hD hS => ?_)
    obtain ⟨hT, f_13, hq_12⟩ := hq_12
    have hF := fr_tr hF f_13 (by decide) (by decide)
    refine W.widen (k := 0) (n := 0) (Nat.le_refl _) (Nat.le_refl _) ?_
    have t_14 := hT
    refine lv_pop hx hb dX6_land_33 rfl ?_
    refine lv_bipush (v := (-20)) hx hb dX6_land_34 (by decide) ?_
    refine lv_aload_n hx hb dX6_land_36 rfl (lv_at hl 1 rfl) ?_
    refine va_get (D := D) (ci := 6) (v := .ref (a 5)) (C := RX6) (T := TX6) (N := 9) hx hb htg ig_6 hown hK hP 0 (oh_wg (by decide) (sX_0 hT)) rfl 5 (by decide) (htg _ q_263) (fun _ h9 => h9) rfl dX6_land_37 ?_
    refine va_get (D := D) (ci := 4) (v := .int (gi (C_2 5) 2)) (C := RX4) (T := TX4) (N := 6) hx hb htg ig_4 hown hK hP 5 (oh_wg (by decide) (sX_5 hT)) rfl 2 (by decide) (htg _ q_221) (fun _ h9 => h9) (oh_fv (c := C_11 5) (j := 2) rfl (Eq.trans (congrArg (fun z => gi z 2) (f_13.1 5 rfl (by decide))) (show gi (C_6 5) 2 = gi (C_2 5) 2 by rw [e_7]; rfl))) dX6_land_40 ?_
    refine lv_isub hx hb dX6_land_43 ?_
    rw [hQ]
    exact W.iret (v := (-20) - (gi (C_2 5) 2)) hx hb hr (fun t ht hW => ⟨⟨(-20) - (gi (C_2 5) 2), C_11, rfl, ⟨hT, hF, (Eq.trans (congrArg (fun z => gi z 1) (f_13.1 5 rfl (by decide))) (show gi (C_6 5) 1 = (0 : Int32) by rw [e_7]; rfl))⟩, ⟨by rw [ht]; exact hP, hD⟩⟩, hS.F ht⟩) hS.2.2 dX6_land_44
