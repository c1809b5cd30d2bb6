set_option maxHeartbeats 4000000 in
set_option maxRecDepth 100000 in
theorem c_X6_cheapest (l : Launch) (D : va_G) (E : Nat → ClassId) (G : Nat → Nat) (sz : Nat) (a : Nat → Nat) (C : Nat → va_E) (hT : TyX a E C) (x1 : Int32) (x2 : Int32) (x3 : Int32) (x4 : Int32) : Met l yX6_cheapest (oh_w yX6_cheapest cX6_cheapest 5 (some .int)) ({ frames := 5, cells := 0, slots := 0, locals := 125 }) (oh_Pm D E G [.ref (a 0), .int x1, .int x2, .int x3, .int x4] (oh_W 35 a C) sz) (va_Qi (fun r (u : Nat → va_E) => TyX a E u ∧ fr [(7, 8), (9, 10), (24, 28)] [] C u ∧ True) (oh_B D (va_A (oh_W 35 a C) sz) (fun u => oh_W 35 a u)) (va_A (oh_W 35 a C) sz)) 0 0 (va_A (oh_W 35 a C) sz) := by
  refine Met.ofW (cc := cX6_cheapest) (maxL := 5) (ret := (some .int)) (by decide) rfl ?_
  intro p e s m args below meth c s₁ B hml hv
  obtain ⟨rfl, hsz, hP, hK, hD0, hG⟩ := hv
  have hx := B.exec
  have hb := B.bytes
  have hr := B.returns
  have hts := atoms_spec (ws := (oh_w yX6_cheapest cX6_cheapest 5 (some .int))) B.pre
  have htg : ∀ w ∈ oh_t, w.before _ s = true := fun w h => hts w (List.mem_cons_of_mem _ h)
  have hown : s.vm.findClass RX6 = some m.cls := findClass_of_methodNamed B.named
  have hlocks := B.notSynchronized
  have hT0 := hT
  subst hsz
  have hD := hD0.self (sz := s.heap.size)
  generalize hAe : va_A (oh_W 35 a C) s.heap.size = A at hD hG ⊢
  have hA : ∀ q : Nat, s.heap.size ≤ q → A q := fun q h => by rw [← hAe]; exact Or.inr h
  have hS : va_S A s.heap s.heap [] := va_S.rf
  have hF : fr [(7, 8), (9, 10), (24, 28)] [] C C := fr_rf
  have hl := lv_entry ([.ref (a 0), .int x1, .int x2, .int x3, .int x4]) (n := 5) (Nat.le_of_ble_eq_true rfl)
  rw [lg_entry_eq]
  generalize (lg_sl ([.ref (a 0), .int x1, .int x2, .int x3, .int x4]) ++ List.replicate (5 - (lg_sl ([.ref (a 0), .int x1, .int x2, .int x3, .int x4])).length) Slot.unset).toArray = ls at hl ⊢
  have hl : lv_has ls 5 [(0, .ref (a 0)), (1, .int x1), (2, .int x2), (3, .int x3), (4, .int x4)] := hl
  refine oh_genQ (fun Q hQ => ?_)
  refine lv_aload_n hx hb dX6_cheapest_0 rfl (lv_at hl 0 rfl) ?_
  refine lv_iload_n hx hb dX6_cheapest_1 rfl (lv_at hl 1 rfl) ?_
  refine lv_iload_n hx hb dX6_cheapest_2 rfl (lv_at hl 2 rfl) ?_
  refine lv_iload_n hx hb dX6_cheapest_3 rfl (lv_at hl 3 rfl) ?_
  refine lv_iload hx hb dX6_cheapest_4 (lv_at hl 4 rfl) ?_
  refine tq_V (As := [.int x1, .int x2, .int x3, .int x4]) (rest := []) (ws := (oh_W 35 a C)) ⟨hx, hb, hml, hown, htg⟩ (c_X6_isJourney l D E G a C hT x1 x2 x3 x4) (cwV 4 htg (oh_gV q_776 q_778 q_17 q_66 q_779) rfl rfl rfl pdVX6_isJourney ⟨Nat.le_of_ble_eq_true rfl, Nat.le_of_ble_eq_true rfl⟩) hK hP hG hS (va_recv hK hP (ci := 6) (q0 := 0) rfl (oh_wg (by decide) (sX_0 hT))) rfl hl.1 rfl (Nat.le_of_ble_eq_true rfl) dX6_cheapest_6 ⟨Nat.le_of_ble_eq_true rfl, Nat.le_of_ble_eq_true rfl⟩ (fun r_1 hq_2 => ?_)
  refine lv_if_ne (tgt := 19) hx hb dX6_cheapest_9 (by decide) (fun (c_3 : ¬ (r_1 = 0)) => ?_) (fun (c_3 : r_1 = 0) => ?_)
  · have u_4 := hq_2.2 c_3
    refine lv_aload_n hx hb dX6_cheapest_19 rfl (lv_at hl 0 rfl) ?_
    refine lv_aload_n hx hb dX6_cheapest_20 rfl (lv_at hl 0 rfl) ?_
    refine va_get (D := D) (ci := 6) (v := .ref (a 3)) (C := RX6) (T := TX6) (N := 9) hx hb htg ig_6 hown hK hP 0 (oh_wg (by decide) (sX_0 hT)) rfl 3 (by decide) (htg _ q_261) (fun _ h9 => h9) rfl dX6_cheapest_21 ?_
    refine lv_iload_n hx hb dX6_cheapest_24 rfl (lv_at hl 1 rfl) ?_
    refine lv_iload_n hx hb dX6_cheapest_25 rfl (lv_at hl 2 rfl) ?_
    refine lv_iload_n hx hb dX6_cheapest_26 rfl (lv_at hl 3 rfl) ?_
    refine lv_iload hx hb dX6_cheapest_27 (lv_at hl 4 rfl) ?_
    refine lv_iconst (v := 1) hx hb dX6_cheapest_29 (by decide) ?_
    refine tm_V (As := [.int x1, .int x2, .int x3, .int x4, .int 1]) (rest := [.ref (a 0)]) ⟨hx, hb, hml, hown, htg⟩ (c_X5_leastCoin l D E G _ a C hT x1 x2 x3 x4 (1 : Int32) (rg_w u_4.1 (by decide)) (rg_w u_4.2.1 (by decide)) (rg_w u_4.2.2 (by decide))) (cwV 5 htg (oh_gV q_780 q_781 q_782 q_68 q_783) rfl rfl rfl pdVX5_leastCoin ⟨Nat.le_of_ble_eq_true rfl, Nat.le_of_ble_eq_true rfl⟩) hK hP hD hG hS hA (va_recv hK hP (ci := 5) (q0 := 3) rfl (oh_wg (by decide) (sX_3 hT))) rfl hl.1 rfl (Nat.le_of_ble_eq_true rfl) dX6_cheapest_30 ⟨Nat.le_of_ble_eq_true rfl, Nat.le_of_ble_eq_true rfl⟩ (fun r_5 C_6 H locs hq_7 hP hD hS => ?_)
    obtain ⟨hT, f_8, hq_7⟩ := hq_7
    have hF := fr_tr hF f_8 (by decide) (by decide)
    refine W.widen (k := 0) (n := 0) (Nat.le_refl _) (Nat.le_refl _) ?_
    have t_9 := hT
    refine tm_V (As := [.int r_5]) (rest := []) ⟨hx, hb, hml, hown, htg⟩ (c_X6_orStuck l D E G _ a C_6 hT r_5) (cwV 1 htg (oh_gV q_799 q_801 q_21 q_66 q_802) rfl rfl rfl pdVX6_orStuck ⟨Nat.le_of_ble_eq_true rfl, Nat.le_of_ble_eq_true rfl⟩) hK hP hD hG hS hA (va_recv hK hP (ci := 6) (q0 := 0) rfl (oh_wg (by decide) (sX_0 hT))) rfl hl.1 rfl (Nat.le_of_ble_eq_true rfl) dX6_cheapest_33 ⟨Nat.le_of_ble_eq_true rfl, Nat.le_of_ble_eq_true rfl⟩ (fun r_10 C_11 H locs hq_12 hP hD hS => ?_)
    obtain ⟨hT, f_13, hq_12⟩ := hq_12
    have hF := fr_tr hF f_13 (by decide) (by decide)
    refine W.widen (k := 0) (n := 0) (Nat.le_refl _) (Nat.le_refl _) ?_
    have t_14 := hT
    rw [hQ]
    exact W.iret (v := r_10) hx hb hr (fun t ht hW => ⟨⟨r_10, C_11, rfl, ⟨hT, hF, trivial⟩, ⟨by rw [ht]; exact hP, hD⟩⟩, hS.F ht⟩) hS.2.2 dX6_cheapest_36
  · refine lv_aload_n hx hb dX6_cheapest_12 rfl (lv_at hl 0 rfl) ?_
    refine lv_bipush (v := (-2)) hx hb dX6_cheapest_13 (by decide) ?_
    refine tm_V (As := [.int (-2)]) (rest := []) ⟨hx, hb, hml, hown, htg⟩ (c_X6_refuse l D E G _ a C hT ((-2) : Int32)) (cwV 1 htg (oh_gV q_296 q_298 q_0 q_66 q_299) rfl rfl rfl pdVX6_refuse ⟨Nat.le_of_ble_eq_true rfl, Nat.le_of_ble_eq_true rfl⟩) hK hP hD hG hS hA (va_recv hK hP (ci := 6) (q0 := 0) rfl (oh_wg (by decide) (sX_0 hT))) rfl hl.1 rfl (Nat.le_of_ble_eq_true rfl) dX6_cheapest_15 ⟨Nat.le_of_ble_eq_true rfl, Nat.le_of_ble_eq_true rfl⟩ (fun r_15 C_16 H locs hq_17 hP hD hS => ?_)
    obtain ⟨hT, f_18, hq_17⟩ := hq_17
    have hF := fr_tr hF f_18 (by decide) (by decide)
    refine W.widen (k := 0) (n := 0) (Nat.le_refl _) (Nat.le_refl _) ?_
    have t_19 := hT
    rw [hQ]
    exact W.iret (v := r_15) hx hb hr (fun t ht hW => ⟨⟨r_15, C_16, rfl, ⟨hT, hF, trivial⟩, ⟨by rw [ht]; exact hP, hD⟩⟩, hS.F ht⟩) hS.2.2 dX6_cheapest_18

set_option maxHeartbeats 4000000 in
set_option maxRecDepth 100000 in
theorem c_X6_soonest (l : Launch) (D : va_G) (E : Nat → ClassId) (G : Nat → Nat) (sz : Nat) (a : Nat → Nat) (C : Nat → va_E) (hT : TyX a E C) (x1 : Int32) (x2 : Int32) (x3 : Int32) (x4 : Int32) : Met l yX6_soonest (oh_w yX6_soonest cX6_soonest 5 (some .int)) ({ frames := 5, cells := 0, slots := 0, locals := 125 }) (oh_Pm D E G [.ref (a 0), .int x1, .int x2, .int x3, .int x4] (oh_W 35 a C) sz) (va_Qi (fun r (u : Nat → va_E) => TyX a E u ∧ fr [(7, 8), (9, 10), (24, 28)] [] C u ∧ True) (oh_B D (va_A (oh_W 35 a C) sz) (fun u => oh_W 35 a u)) (va_A (oh_W 35 a C) sz)) 0 0 (va_A (oh_W 35 a C) sz) := by
  refine Met.ofW (cc := cX6_soonest) (maxL := 5) (ret := (some .int)) (by decide) rfl ?_
  intro p e s m args below meth c s₁ B hml hv
  obtain ⟨rfl, hsz, hP, hK, hD0, hG⟩ := hv
  have hx := B.exec
  have hb := B.bytes
  have hr := B.returns
  have hts := atoms_spec (ws := (oh_w yX6_soonest cX6_soonest 5 (some .int))) B.pre
  have htg : ∀ w ∈ oh_t, w.before _ s = true := fun w h => hts w (List.mem_cons_of_mem _ h)
  have hown : s.vm.findClass RX6 = some m.cls := findClass_of_methodNamed B.named
  have hlocks := B.notSynchronized
  have hT0 := hT
  subst hsz
  have hD := hD0.self (sz := s.heap.size)
  generalize hAe : va_A (oh_W 35 a C) s.heap.size = A at hD hG ⊢
  have hA : ∀ q : Nat, s.heap.size ≤ q → A q := fun q h => by rw [← hAe]; exact Or.inr h
  have hS : va_S A s.heap s.heap [] := va_S.rf
  have hF : fr [(7, 8), (9, 10), (24, 28)] [] C C := fr_rf
  have hl := lv_entry ([.ref (a 0), .int x1, .int x2, .int x3, .int x4]) (n := 5) (Nat.le_of_ble_eq_true rfl)
  rw [lg_entry_eq]
  generalize (lg_sl ([.ref (a 0), .int x1, .int x2, .int x3, .int x4]) ++ List.replicate (5 - (lg_sl ([.ref (a 0), .int x1, .int x2, .int x3, .int x4])).length) Slot.unset).toArray = ls at hl ⊢
  have hl : lv_has ls 5 [(0, .ref (a 0)), (1, .int x1), (2, .int x2), (3, .int x3), (4, .int x4)] := hl
  refine oh_genQ (fun Q hQ => ?_)
  refine lv_aload_n hx hb dX6_soonest_0 rfl (lv_at hl 0 rfl) ?_
  refine lv_iload_n hx hb dX6_soonest_1 rfl (lv_at hl 1 rfl) ?_
  refine lv_iload_n hx hb dX6_soonest_2 rfl (lv_at hl 2 rfl) ?_
  refine lv_iload_n hx hb dX6_soonest_3 rfl (lv_at hl 3 rfl) ?_
  refine lv_iload hx hb dX6_soonest_4 (lv_at hl 4 rfl) ?_
  refine tq_V (As := [.int x1, .int x2, .int x3, .int x4]) (rest := []) (ws := (oh_W 35 a C)) ⟨hx, hb, hml, hown, htg⟩ (c_X6_isJourney l D E G a C hT x1 x2 x3 x4) (cwV 4 htg (oh_gV q_776 q_778 q_17 q_66 q_779) rfl rfl rfl pdVX6_isJourney ⟨Nat.le_of_ble_eq_true rfl, Nat.le_of_ble_eq_true rfl⟩) hK hP hG hS (va_recv hK hP (ci := 6) (q0 := 0) rfl (oh_wg (by decide) (sX_0 hT))) rfl hl.1 rfl (Nat.le_of_ble_eq_true rfl) dX6_soonest_6 ⟨Nat.le_of_ble_eq_true rfl, Nat.le_of_ble_eq_true rfl⟩ (fun r_1 hq_2 => ?_)
  refine lv_if_ne (tgt := 19) hx hb dX6_soonest_9 (by decide) (fun (c_3 : ¬ (r_1 = 0)) => ?_) (fun (c_3 : r_1 = 0) => ?_)
  · have u_4 := hq_2.2 c_3
    refine lv_aload_n hx hb dX6_soonest_19 rfl (lv_at hl 0 rfl) ?_
    refine lv_aload_n hx hb dX6_soonest_20 rfl (lv_at hl 0 rfl) ?_
    refine va_get (D := D) (ci := 6) (v := .ref (a 3)) (C := RX6) (T := TX6) (N := 9) hx hb htg ig_6 hown hK hP 0 (oh_wg (by decide) (sX_0 hT)) rfl 3 (by decide) (htg _ q_261) (fun _ h9 => h9) rfl dX6_soonest_21 ?_
    refine lv_iload_n hx hb dX6_soonest_24 rfl (lv_at hl 1 rfl) ?_
    refine lv_iload_n hx hb dX6_soonest_25 rfl (lv_at hl 2 rfl) ?_
    refine lv_iload_n hx hb dX6_soonest_26 rfl (lv_at hl 3 rfl) ?_
    refine lv_iload hx hb dX6_soonest_27 (lv_at hl 4 rfl) ?_
    refine tm_V (As := [.int x1, .int x2, .int x3, .int x4]) (rest := [.ref (a 0)]) ⟨hx, hb, hml, hown, htg⟩ (c_X5_leastDays l D E G _ a C hT x1 x2 x3 x4 (rg_w u_4.1 (by decide)) (rg_w u_4.2.1 (by decide)) (rg_w u_4.2.2 (by decide))) (cwV 4 htg (oh_gV q_808 q_809 q_810 q_68 q_811) rfl rfl rfl pdVX5_leastDays ⟨Nat.le_of_ble_eq_true rfl, Nat.le_of_ble_eq_true rfl⟩) hK hP hD hG hS hA (va_recv hK hP (ci := 5) (q0 := 3) rfl (oh_wg (by decide) (sX_3 hT))) rfl hl.1 rfl (Nat.le_of_ble_eq_true rfl) dX6_soonest_29 ⟨Nat.le_of_ble_eq_true rfl, Nat.le_of_ble_eq_true rfl⟩ (fun r_5 C_6 H locs hq_7 hP hD hS => ?_)
    obtain ⟨hT, f_8, hq_7⟩ := hq_7
    have hF := fr_tr hF f_8 (by decide) (by decide)
    refine W.widen (k := 0) (n := 0) (Nat.le_refl _) (Nat.le_refl _) ?_
    have t_9 := hT
    refine tm_V (As := [.int r_5]) (rest := []) ⟨hx, hb, hml, hown, htg⟩ (c_X6_orStuck l D E G _ a C_6 hT r_5) (cwV 1 htg (oh_gV q_799 q_801 q_21 q_66 q_802) rfl rfl rfl pdVX6_orStuck ⟨Nat.le_of_ble_eq_true rfl, Nat.le_of_ble_eq_true rfl⟩) hK hP hD hG hS hA (va_recv hK hP (ci := 6) (q0 := 0) rfl (oh_wg (by decide) (sX_0 hT))) rfl hl.1 rfl (Nat.le_of_ble_eq_true rfl) dX6_soonest_32 ⟨Nat.le_of_ble_eq_true rfl, Nat.le_of_ble_eq_true rfl⟩ (fun r_10 C_11 H locs hq_12 hP hD hS => ?_)
    obtain ⟨hT, f_13, hq_12⟩ := hq_12
    have hF := fr_tr hF f_13 (by decide) (by decide)
    refine W.widen (k := 0) (n := 0) (Nat.le_refl _) (Nat.le_refl _) ?_
    have t_14 := hT
    rw [hQ]
    exact W.iret (v := r_10) hx hb hr (fun t ht hW => ⟨⟨r_10, C_11, rfl, ⟨hT, hF, trivial⟩, ⟨by rw [ht]; exact hP, hD⟩⟩, hS.F ht⟩) hS.2.2 dX6_soonest_35
  · refine lv_aload_n hx hb dX6_soonest_12 rfl (lv_at hl 0 rfl) ?_
    refine lv_bipush (v := (-2)) hx hb dX6_soonest_13 (by decide) ?_
    refine tm_V (As := [.int (-2)]) (rest := []) ⟨hx, hb, hml, hown, htg⟩ (c_X6_refuse l D E G _ a C hT ((-2) : Int32)) (cwV 1 htg (oh_gV q_296 q_298 q_0 q_66 q_299) rfl rfl rfl pdVX6_refuse ⟨Nat.le_of_ble_eq_true rfl, Nat.le_of_ble_eq_true rfl⟩) hK hP hD hG hS hA (va_recv hK hP (ci := 6) (q0 := 0) rfl (oh_wg (by decide) (sX_0 hT))) rfl hl.1 rfl (Nat.le_of_ble_eq_true rfl) dX6_soonest_15 ⟨Nat.le_of_ble_eq_true rfl, Nat.le_of_ble_eq_true rfl⟩ (fun r_15 C_16 H locs hq_17 hP hD hS => ?_)
    obtain ⟨hT, f_18, hq_17⟩ := hq_17
    have hF := fr_tr hF f_18 (by decide) (by decide)
    refine W.widen (k := 0) (n := 0) (Nat.le_refl _) (Nat.le_refl _) ?_
    have t_19 := hT
    rw [hQ]
    exact W.iret (v := r_15) hx hb hr (fun t ht hW => ⟨⟨r_15, C_16, rfl, ⟨hT, hF, trivial⟩, ⟨by rw [ht]; exact hP, hD⟩⟩, hS.F ht⟩) hS.2.2 dX6_soonest_18

set_option maxHeartbeats 4000000 in
set_option maxRecDepth 100000 in
theorem c_X6_again (l : Launch) (D : va_G) (E : Nat → ClassId) (G : Nat → Nat) (sz : Nat) (a : Nat → Nat) (C : Nat → va_E) (hT : TyX a E C) (x1 : Int32) (x2 : Int32) (x3 : Int32) (x4 : Int32) (x5 : Int32) : Met l yX6_again (oh_w yX6_again cX6_again 6 (some .int)) ({ frames := 5, cells := 0, slots := 0, locals := 125 }) (oh_Pm D E G [.ref (a 0), .int x1, .int x2, .int x3, .int x4, .int x5] (oh_W 35 a C) sz) (va_Qi (fun r (u : Nat → va_E) => TyX a E u ∧ fr [(7, 8), (9, 10), (24, 28)] [] C u ∧ True) (oh_B D (va_A (oh_W 35 a C) sz) (fun u => oh_W 35 a u)) (va_A (oh_W 35 a C) sz)) 0 0 (va_A (oh_W 35 a C) sz) := by
  refine Met.ofW (cc := cX6_again) (maxL := 6) (ret := (some .int)) (by decide) rfl ?_
  intro p e s m args below meth c s₁ B hml hv
  obtain ⟨rfl, hsz, hP, hK, hD0, hG⟩ := hv
  have hx := B.exec
  have hb := B.bytes
  have hr := B.returns
  have hts := atoms_spec (ws := (oh_w yX6_again cX6_again 6 (some .int))) B.pre
  have htg : ∀ w ∈ oh_t, w.before _ s = true := fun w h => hts w (List.mem_cons_of_mem _ h)
  have hown : s.vm.findClass RX6 = some m.cls := findClass_of_methodNamed B.named
  have hlocks := B.notSynchronized
  have hT0 := hT
  subst hsz
  have hD := hD0.self (sz := s.heap.size)
  generalize hAe : va_A (oh_W 35 a C) s.heap.size = A at hD hG ⊢
  have hA : ∀ q : Nat, s.heap.size ≤ q → A q := fun q h => by rw [← hAe]; exact Or.inr h
  have hS : va_S A s.heap s.heap [] := va_S.rf
  have hF : fr [(7, 8), (9, 10), (24, 28)] [] C C := fr_rf
  have hl := lv_entry ([.ref (a 0), .int x1, .int x2, .int x3, .int x4, .int x5]) (n := 6) (Nat.le_of_ble_eq_true rfl)
  rw [lg_entry_eq]
  generalize (lg_sl ([.ref (a 0), .int x1, .int x2, .int x3, .int x4, .int x5]) ++ List.replicate (6 - (lg_sl ([.ref (a 0), .int x1, .int x2, .int x3, .int x4, .int x5])).length) Slot.unset).toArray = ls at hl ⊢
  have hl : lv_has ls 6 [(0, .ref (a 0)), (1, .int x1), (2, .int x2), (3, .int x3), (4, .int x4), (5, .int x5)] := hl
  refine oh_genQ (fun Q hQ => ?_)
  refine lv_aload_n hx hb dX6_again_0 rfl (lv_at hl 0 rfl) ?_
  refine lv_iload_n hx hb dX6_again_1 rfl (lv_at hl 1 rfl) ?_
  refine lv_iload_n hx hb dX6_again_2 rfl (lv_at hl 2 rfl) ?_
  refine lv_iload_n hx hb dX6_again_3 rfl (lv_at hl 3 rfl) ?_
  refine lv_iload hx hb dX6_again_4 (lv_at hl 4 rfl) ?_
  refine tq_V (As := [.int x1, .int x2, .int x3, .int x4]) (rest := []) (ws := (oh_W 35 a C)) ⟨hx, hb, hml, hown, htg⟩ (c_X6_isJourney l D E G a C hT x1 x2 x3 x4) (cwV 4 htg (oh_gV q_776 q_778 q_17 q_66 q_779) rfl rfl rfl pdVX6_isJourney ⟨Nat.le_of_ble_eq_true rfl, Nat.le_of_ble_eq_true rfl⟩) hK hP hG hS (va_recv hK hP (ci := 6) (q0 := 0) rfl (oh_wg (by decide) (sX_0 hT))) rfl hl.1 rfl (Nat.le_of_ble_eq_true rfl) dX6_again_6 ⟨Nat.le_of_ble_eq_true rfl, Nat.le_of_ble_eq_true rfl⟩ (fun r_1 hq_2 => ?_)
  refine lv_if_eq (tgt := 23) hx hb dX6_again_9 (by decide) (fun (c_3 : r_1 = 0) => ?_) (fun (c_3 : ¬ (r_1 = 0)) => ?_)
  · refine lv_aload_n hx hb dX6_again_23 rfl (lv_at hl 0 rfl) ?_
    refine lv_bipush (v := (-2)) hx hb dX6_again_24 (by decide) ?_
    refine tm_V (As := [.int (-2)]) (rest := []) ⟨hx, hb, hml, hown, htg⟩ (c_X6_refuse l D E G _ a C hT ((-2) : Int32)) (cwV 1 htg (oh_gV q_296 q_298 q_0 q_66 q_299) rfl rfl rfl pdVX6_refuse ⟨Nat.le_of_ble_eq_true rfl, Nat.le_of_ble_eq_true rfl⟩) hK hP hD hG hS hA (va_recv hK hP (ci := 6) (q0 := 0) rfl (oh_wg (by decide) (sX_0 hT))) rfl hl.1 rfl (Nat.le_of_ble_eq_true rfl) dX6_again_26 ⟨Nat.le_of_ble_eq_true rfl, Nat.le_of_ble_eq_true rfl⟩ (fun r_4 C_5 H locs hq_6 hP hD hS => ?_)
    obtain ⟨hT, f_7, hq_6⟩ := hq_6
    have hF := fr_tr hF f_7 (by decide) (by decide)
    refine W.widen (k := 0) (n := 0) (Nat.le_refl _) (Nat.le_refl _) ?_
    have t_8 := hT
    rw [hQ]
    exact W.iret (v := r_4) hx hb hr (fun t ht hW => ⟨⟨r_4, C_5, rfl, ⟨hT, hF, trivial⟩, ⟨by rw [ht]; exact hP, hD⟩⟩, hS.F ht⟩) hS.2.2 dX6_again_29
  · have u_9 := hq_2.2 c_3
    refine lv_iload hx hb dX6_again_12 (lv_at hl 5 rfl) ?_
    refine lv_iconst (v := 1) hx hb dX6_again_14 (by decide) ?_
    refine lv_bipush (v := 20) hx hb dX6_again_15 (by decide) ?_
    refine tq_S (As := [.int x5, .int 1, .int 20]) (rest := []) (ws := []) ⟨hx, hb, hml, hown, htg⟩ (c_X6_within l D E G x5 (1 : Int32) (20 : Int32)) (va_cwS 3 htg (oh_gS q_293 q_294 q_66 q_295) rfl rfl rfl pdX6_within ⟨Nat.le_of_ble_eq_true rfl, Nat.le_of_ble_eq_true rfl⟩) hK va_nil hG hS rfl hl.1 rfl (Nat.le_of_ble_eq_true rfl) dX6_again_17 ⟨Nat.le_of_ble_eq_true rfl, Nat.le_of_ble_eq_true rfl⟩ (fun r_10 hq_11 => ?_)
    refine lv_if_ne (tgt := 30) hx hb dX6_again_20 (by decide) (fun (c_12 : ¬ (r_10 = 0)) => ?_) (fun (c_12 : r_10 = 0) => ?_)
    · have u_13 := hq_11.2.1 c_12
      refine lv_aload_n hx hb dX6_again_30 rfl (lv_at hl 0 rfl) ?_
      refine lv_aload_n hx hb dX6_again_31 rfl (lv_at hl 0 rfl) ?_
      refine va_get (D := D) (ci := 6) (v := .ref (a 3)) (C := RX6) (T := TX6) (N := 9) hx hb htg ig_6 hown hK hP 0 (oh_wg (by decide) (sX_0 hT)) rfl 3 (by decide) (htg _ q_261) (fun _ h9 => h9) rfl dX6_again_32 ?_
      refine lv_iload_n hx hb dX6_again_35 rfl (lv_at hl 1 rfl) ?_
      refine lv_iload_n hx hb dX6_again_36 rfl (lv_at hl 2 rfl) ?_
      refine lv_iload_n hx hb dX6_again_37 rfl (lv_at hl 3 rfl) ?_
      refine lv_iload hx hb dX6_again_38 (lv_at hl 4 rfl) ?_
      refine lv_iload hx hb dX6_again_40 (lv_at hl 5 rfl) ?_
      refine tm_V (As := [.int x1, .int x2, .int x3, .int x4, .int x5]) (rest := [.ref (a 0)]) ⟨hx, hb, hml, hown, htg⟩ (c_X5_leastCoin l D E G _ a C hT x1 x2 x3 x4 x5 (rg_w u_9.1 (by decide)) (rg_w u_9.2.1 (by decide)) (rg_w u_9.2.2 (by decide))) (cwV 5 htg (oh_gV q_780 q_781 q_782 q_68 q_783) rfl rfl rfl pdVX5_leastCoin ⟨Nat.le_of_ble_eq_true rfl, Nat.le_of_ble_eq_true rfl⟩) hK hP hD hG hS hA (va_recv hK hP (ci := 5) (q0 := 3) rfl (oh_wg (by decide) (sX_3 hT))) rfl hl.1 rfl (Nat.le_of_ble_eq_true rfl) dX6_again_42 ⟨Nat.le_of_ble_eq_true rfl, Nat.le_of_ble_eq_true rfl⟩ (fun r_14 C_15 H locs hq_16 hP hD hS => ?_)
      obtain ⟨hT, f_17, hq_16⟩ := hq_16
      have hF := fr_tr hF f_17 (by decide) (by decide)
      refine W.widen (k := 0) (n := 0) (Nat.le_refl _) (Nat.le_refl _) ?_
      have t_18 := hT
      refine tm_V (As := [.int r_14]) (rest := []) ⟨hx, hb, hml, hown, htg⟩ (c_X6_orStuck l D E G _ a C_15 hT r_14) (cwV 1 htg (oh_gV q_799 q_801 q_21 q_66 q_802) rfl rfl rfl pdVX6_orStuck ⟨Nat.le_of_ble_eq_true rfl, Nat.le_of_ble_eq_true rfl⟩) hK hP hD hG hS hA (va_recv hK hP (ci := 6) (q0 := 0) rfl (oh_wg (by decide) (sX_0 hT))) rfl hl.1 rfl (Nat.le_of_ble_eq_true rfl) dX6_again_45 ⟨Nat.le_of_ble_eq_true rfl, Nat.le_of_ble_eq_true rfl⟩ (fun r_19 C_20 H locs hq_21 hP hD hS => ?_)
      obtain ⟨hT, f_22, hq_21⟩ := hq_21
      have hF := fr_tr hF f_22 (by decide) (by decide)
      refine W.widen (k := 0) (n := 0) (Nat.le_refl _) (Nat.le_refl _) ?_
      have t_23 := hT
      rw [hQ]
      exact W.iret (v := r_19) hx hb hr (fun t ht hW => ⟨⟨r_19, C_20, rfl, ⟨hT, hF, trivial⟩, ⟨by rw [ht]; exact hP, hD⟩⟩, hS.F ht⟩) hS.2.2 dX6_again_48
    · have u_24 := hq_11.2.2 c_12
      refine lv_aload_n hx hb dX6_again_23 rfl (lv_at hl 0 rfl) ?_
      refine lv_bipush (v := (-2)) hx hb dX6_again_24 (by decide) ?_
      refine tm_V (As := [.int (-2)]) (rest := []) ⟨hx, hb, hml, hown, htg⟩ (c_X6_refuse l D E G _ a C hT ((-2) : Int32)) (cwV 1 htg (oh_gV q_296 q_298 q_0 q_66 q_299) rfl rfl rfl pdVX6_refuse ⟨Nat.le_of_ble_eq_true rfl, Nat.le_of_ble_eq_true rfl⟩) hK hP hD hG hS hA (va_recv hK hP (ci := 6) (q0 := 0) rfl (oh_wg (by decide) (sX_0 hT))) rfl hl.1 rfl (Nat.le_of_ble_eq_true rfl) dX6_again_26 ⟨Nat.le_of_ble_eq_true rfl, Nat.le_of_ble_eq_true rfl⟩ (fun r_25 C_26 H locs hq_27 hP hD hS => ?_)
      obtain ⟨hT, f_28, hq_27⟩ := hq_27
      have hF := fr_tr hF f_28 (by decide) (by decide)
      refine W.widen (k := 0) (n := 0) (Nat.le_refl _) (Nat.le_refl _) ?_
      have t_29 := hT
      rw [hQ]
      exact W.iret (v := r_25) hx hb hr (fun t ht hW => ⟨⟨r_25, C_26, rfl, ⟨hT, hF, trivial⟩, ⟨by rw [ht]; exact hP, hD⟩⟩, hS.F ht⟩) hS.2.2 dX6_again_29

set_option maxHeartbeats 4000000 in
set_option maxRecDepth 100000 in
theorem c_X6_best (l : Launch) (D : va_G) (E : Nat → ClassId) (G : Nat → Nat) (sz : Nat) (a : Nat → Nat) (C : Nat → va_E) (hT : TyX a E C) (x1 : Int32) (x2 : Int32) (x3 : Int32) : Met l yX6_best (oh_w yX6_best cX6_best 4 (some .int)) ({ frames := 6, cells := 0, slots := 0, locals := 150 }) (oh_Pm D E G [.ref (a 0), .int x1, .int x2, .int x3] (oh_W 35 a C) sz) (va_Qi (fun r (u : Nat → va_E) => TyX a E u ∧ fr [(7, 10), (24, 28)] [] C u ∧ True) (oh_B D (va_A (oh_W 35 a C) sz) (fun u => oh_W 35 a u)) (va_A (oh_W 35 a C) sz)) 0 0 (va_A (oh_W 35 a C) sz) := by
  refine Met.ofW (cc := cX6_best) (maxL := 4) (ret := (some .int)) (by decide) rfl ?_
  intro p e s m args below meth c s₁ B hml hv
  obtain ⟨rfl, hsz, hP, hK, hD0, hG⟩ := hv
  have hx := B.exec
  have hb := B.bytes
  have hr := B.returns
  have hts := atoms_spec (ws := (oh_w yX6_best cX6_best 4 (some .int))) B.pre
  have htg : ∀ w ∈ oh_t, w.before _ s = true := fun w h => hts w (List.mem_cons_of_mem _ h)
  have hown : s.vm.findClass RX6 = some m.cls := findClass_of_methodNamed B.named
  have hlocks := B.notSynchronized
  have hT0 := hT
  subst hsz
  have hD := hD0.self (sz := s.heap.size)
  generalize hAe : va_A (oh_W 35 a C) s.heap.size = A at hD hG ⊢
  have hA : ∀ q : Nat, s.heap.size ≤ q → A q := fun q h => by rw [← hAe]; exact Or.inr h
  have hS : va_S A s.heap s.heap [] := va_S.rf
  have hF : fr [(7, 10), (24, 28)] [] C C := fr_rf
  have hl := lv_entry ([.ref (a 0), .int x1, .int x2, .int x3]) (n := 4) (Nat.le_of_ble_eq_true rfl)
  rw [lg_entry_eq]
  generalize (lg_sl ([.ref (a 0), .int x1, .int x2, .int x3]) ++ List.replicate (4 - (lg_sl ([.ref (a 0), .int x1, .int x2, .int x3])).length) Slot.unset).toArray = ls at hl ⊢
  have hl : lv_has ls 4 [(0, .ref (a 0)), (1, .int x1), (2, .int x2), (3, .int x3)] := hl
  refine oh_genQ (fun Q hQ => ?_)
  refine lv_iload_n hx hb dX6_best_0 rfl (lv_at hl 1 rfl) ?_
  refine tq_S (As := [.int x1]) (rest := []) (ws := []) ⟨hx, hb, hml, hown, htg⟩ (c_X6_isPlace l D E G x1) (va_cwS 1 htg (oh_gS q_413 q_414 q_66 q_415) rfl rfl rfl pdX6_isPlace ⟨Nat.le_of_ble_eq_true rfl, Nat.le_of_ble_eq_true rfl⟩) hK va_nil hG hS rfl hl.1 rfl (Nat.le_of_ble_eq_true rfl) dX6_best_1 ⟨Nat.le_of_ble_eq_true rfl, Nat.le_of_ble_eq_true rfl⟩ (fun r_1 hq_2 => ?_)
  refine lv_if_eq (tgt := 23) hx hb dX6_best_4 (by decide) (fun (c_3 : r_1 = 0) => ?_) (fun (c_3 : ¬ (r_1 = 0)) => ?_)
  · refine lv_aload_n hx hb dX6_best_23 rfl (lv_at hl 0 rfl) ?_
    refine lv_bipush (v := (-2)) hx hb dX6_best_24 (by decide) ?_
    refine tm_V (As := [.int (-2)]) (rest := []) ⟨hx, hb, hml, hown, htg⟩ (c_X6_refuse l D E G _ a C hT ((-2) : Int32)) (cwV 1 htg (oh_gV q_296 q_298 q_0 q_66 q_299) rfl rfl rfl pdVX6_refuse ⟨Nat.le_of_ble_eq_true rfl, Nat.le_of_ble_eq_true rfl⟩) hK hP hD hG hS hA (va_recv hK hP (ci := 6) (q0 := 0) rfl (oh_wg (by decide) (sX_0 hT))) rfl hl.1 rfl (Nat.le_of_ble_eq_true rfl) dX6_best_26 ⟨Nat.le_of_ble_eq_true rfl, Nat.le_of_ble_eq_true rfl⟩ (fun r_4 C_5 H locs hq_6 hP hD hS => ?_)
    obtain ⟨hT, f_7, hq_6⟩ := hq_6
    have hF := fr_tr hF f_7 (by decide) (by decide)
    refine W.widen (k := 0) (n := 0) (Nat.le_refl _) (Nat.le_refl _) ?_
    have t_8 := hT
    rw [hQ]
    exact W.iret (v := r_4) hx hb hr (fun t ht hW => ⟨⟨r_4, C_5, rfl, ⟨hT, hF, trivial⟩, ⟨by rw [ht]; exact hP, hD⟩⟩, hS.F ht⟩) hS.2.2 dX6_best_29
  · have u_9 := hq_2.2 c_3
    refine lv_iload_n hx hb dX6_best_7 rfl (lv_at hl 2 rfl) ?_
    refine tq_S (As := [.int x2]) (rest := []) (ws := []) ⟨hx, hb, hml, hown, htg⟩ (c_X6_isPlace l D E G x2) (va_cwS 1 htg (oh_gS q_413 q_414 q_66 q_415) rfl rfl rfl pdX6_isPlace ⟨Nat.le_of_ble_eq_true rfl, Nat.le_of_ble_eq_true rfl⟩) hK va_nil hG hS rfl hl.1 rfl (Nat.le_of_ble_eq_true rfl) dX6_best_8 ⟨Nat.le_of_ble_eq_true rfl, Nat.le_of_ble_eq_true rfl⟩ (fun r_10 hq_11 => ?_)
    refine lv_if_eq (tgt := 23) hx hb dX6_best_11 (by decide) (fun (c_12 : r_10 = 0) => ?_) (fun (c_12 : ¬ (r_10 = 0)) => ?_)
    · refine lv_aload_n hx hb dX6_best_23 rfl (lv_at hl 0 rfl) ?_
      refine lv_bipush (v := (-2)) hx hb dX6_best_24 (by decide) ?_
      refine tm_V (As := [.int (-2)]) (rest := []) ⟨hx, hb, hml, hown, htg⟩ (c_X6_refuse l D E G _ a C hT ((-2) : Int32)) (cwV 1 htg (oh_gV q_296 q_298 q_0 q_66 q_299) rfl rfl rfl pdVX6_refuse ⟨Nat.le_of_ble_eq_true rfl, Nat.le_of_ble_eq_true rfl⟩) hK hP hD hG hS hA (va_recv hK hP (ci := 6) (q0 := 0) rfl (oh_wg (by decide) (sX_0 hT))) rfl hl.1 rfl (Nat.le_of_ble_eq_true rfl) dX6_best_26 ⟨Nat.le_of_ble_eq_true rfl, Nat.le_of_ble_eq_true rfl⟩ (fun r_13 C_14 H locs hq_15 hP hD hS => ?_)
      obtain ⟨hT, f_16, hq_15⟩ := hq_15
      have hF := fr_tr hF f_16 (by decide) (by decide)
      refine W.widen (k := 0) (n := 0) (Nat.le_refl _) (Nat.le_refl _) ?_
      have t_17 := hT
      rw [hQ]
      exact W.iret (v := r_13) hx hb hr (fun t ht hW => ⟨⟨r_13, C_14, rfl, ⟨hT, hF, trivial⟩, ⟨by rw [ht]; exact hP, hD⟩⟩, hS.F ht⟩) hS.2.2 dX6_best_29
    · have u_18 := hq_11.2 c_12
      refine lv_iload_n hx hb dX6_best_14 rfl (lv_at hl 3 rfl) ?_
      refine lv_iconst (v := 0) hx hb dX6_best_15 (by decide) ?_
      refine lv_iconst (v := 2) hx hb dX6_best_16 (by decide) ?_
      refine tq_S (As := [.int x3, .int 0, .int 2]) (rest := []) (ws := []) ⟨hx, hb, hml, hown, htg⟩ (c_X6_within l D E G x3 (0 : Int32) (2 : Int32)) (va_cwS 3 htg (oh_gS q_293 q_294 q_66 q_295) rfl rfl rfl pdX6_within ⟨Nat.le_of_ble_eq_true rfl, Nat.le_of_ble_eq_true rfl⟩) hK va_nil hG hS rfl hl.1 rfl (Nat.le_of_ble_eq_true rfl) dX6_best_17 ⟨Nat.le_of_ble_eq_true rfl, Nat.le_of_ble_eq_true rfl⟩ (fun r_19 hq_20 => ?_)
      refine lv_if_ne (tgt := 30) hx hb dX6_best_20 (by decide) (fun (c_21 : ¬ (r_19 = 0)) => ?_) (fun (c_21 : r_19 = 0) => ?_)
      · have u_22 := hq_20.2.1 c_21
        refine lv_aload_n hx hb dX6_best_30 rfl (lv_at hl 0 rfl) ?_
        refine lv_iload_n hx hb dX6_best_31 rfl (lv_at hl 1 rfl) ?_
        refine lv_iload_n hx hb dX6_best_32 rfl (lv_at hl 2 rfl) ?_
        refine tm_Vv (As := [.int x1, .int x2]) (rest := []) ⟨hx, hb, hml, hown, htg⟩ (c_X6_findBest l D E G _ a C hT x1 x2 (rg_w u_9 (by decide)) (rg_w u_18 (by decide))) (cwV 2 htg (oh_gV q_821 q_823 q_22 q_66 q_824) rfl rfl rfl pdVX6_findBest ⟨Nat.le_of_ble_eq_true rfl, Nat.le_of_ble_eq_true rfl⟩) hK hP hD hG hS hA (va_recv hK hP (ci := 6) (q0 := 0) rfl (oh_wg (by decide) (sX_0 hT))) rfl hl.1 rfl (Nat.le_of_ble_eq_true rfl) dX6_best_33 ⟨Nat.le_of_ble_eq_true rfl, Nat.le_of_ble_eq_true rfl⟩ (fun C_24 H locs hq_25 hP hD hS => ?_)
        obtain ⟨hT, f_26, hq_25⟩ := hq_25
        have hF := fr_tr hF f_26 (by decide) (by decide)
        refine W.widen (k := 0) (n := 0) (Nat.le_refl _) (Nat.le_refl _) ?_
        have t_27 := hT
        refine lv_aload_n hx hb dX6_best_36 rfl (lv_at hl 0 rfl) ?_
        refine va_get (D := D) (ci := 6) (v := .ref (a 8)) (C := RX6) (T := TX6) (N := 9) hx hb htg ig_6 hown hK hP 0 (oh_wg (by decide) (sX_0 hT)) rfl 8 (by decide) (htg _ q_266) (fun _ h9 => h9) rfl dX6_best_37 ?_
        refine lv_iconst (v := 2) hx hb dX6_best_40 (by decide) ?_
        refine th_iald hx hb hK hP 8 (by decide) (sX_8 hT) (rg_in (rg_c (v := 2) (lo := 2) (hi := 2) (by decide)) (by decide)) dX6_best_41 ?_
        refine lv_ldc (v := 1000000000) hx hb hown (htg _ q_803) dX6_best_42 ?_
        refine lv_icmp_ne (tgt := 56) hx hb dX6_best_44 (by decide) (fun (c_28 : ¬ ((ga (C_24 8) ((2 : Int32)).toNatClampNeg) = 1000000000)) => ?_) (fun (c_28 : (ga (C_24 8) ((2 : Int32)).toNatClampNeg) = 1000000000) => ?_)
        · refine lv_aload_n hx hb dX6_best_56 rfl (lv_at hl 0 rfl) ?_
          refine va_get (D := D) (ci := 6) (v := .ref (a 8)) (C := RX6) (T := TX6) (N := 9) hx hb htg ig_6 hown hK hP 0 (oh_wg (by decide) (sX_0 hT)) rfl 8 (by decide) (htg _ q_266) (fun _ h9 => h9) rfl dX6_best_57 ?_
          refine lv_iload_n hx hb dX6_best_60 rfl (lv_at hl 3 rfl) ?_
          have n_29 : vp_in x3 3 := (rg_in (rn_leu u_22.2 (rn_lel u_22.1 (rg_c (v := 0) (lo := 0) (hi := 0) (by decide)) (rg_any _)) (rg_c (v := 2) (lo := 2) (hi := 2) (by decide))) (by decide))
          refine th_iald hx hb hK hP 8 (by decide) (sX_8 hT) n_29 dX6_best_61 ?_
          rw [hQ]
          exact W.iret (v := ga (C_24 8) (x3).toNatClampNeg) hx hb hr (fun t ht hW => ⟨⟨ga (C_24 8) (x3).toNatClampNeg, C_24, rfl, ⟨hT, hF, trivial⟩, ⟨by rw [ht]; exact hP, hD⟩⟩, hS.F ht⟩) hS.2.2 dX6_best_62
        · refine lv_aload_n hx hb dX6_best_47 rfl (lv_at hl 0 rfl) ?_
          refine lv_bipush (v := (-5)) hx hb dX6_best_48 (by decide) ?_
          refine tm_V (As := [.int (-5)]) (rest := []) ⟨hx, hb, hml, hown, htg⟩ (c_X6_refuse l D E G _ a C_24 hT ((-5) : Int32)) (cwV 1 htg (oh_gV q_296 q_298 q_0 q_66 q_299) rfl rfl rfl pdVX6_refuse ⟨Nat.le_of_ble_eq_true rfl, Nat.le_of_ble_eq_true rfl⟩) hK hP hD hG hS hA (va_recv hK hP (ci := 6) (q0 := 0) rfl (oh_wg (by decide) (sX_0 hT))) rfl hl.1 rfl (Nat.le_of_ble_eq_true rfl) dX6_best_50 ⟨Nat.le_of_ble_eq_true rfl, Nat.le_of_ble_eq_true rfl⟩ (fun r_30 C_31 H locs hq_32 hP hD hS => ?_)
          obtain ⟨hT, f_33, hq_32⟩ := hq_32
          have hF := fr_tr hF f_33 (by decide) (by decide)
          refine W.widen (k := 0) (n := 0) (Nat.le_refl _) (Nat.le_refl _) ?_
          have t_34 := hT
          refine lv_goto (tgt := 62) hx hb dX6_best_53 (by decide) ?_
          rw [hQ]
          exact W.iret (v := r_30) hx hb hr (fun t ht hW => ⟨⟨r_30, C_31, rfl, ⟨hT, hF, trivial⟩, ⟨by rw [ht]; exact hP, hD⟩⟩, hS.F ht⟩) hS.2.2 dX6_best_62
      · have u_35 := hq_20.2.2 c_21
        refine lv_aload_n hx hb dX6_best_23 rfl (lv_at hl 0 rfl) ?_
        refine lv_bipush (v := (-2)) hx hb dX6_best_24 (by decide) ?_
        refine tm_V (As := [.int (-2)]) (rest := []) ⟨hx, hb, hml, hown, htg⟩ (c_X6_refuse l D E G _ a C hT ((-2) : Int32)) (cwV 1 htg (oh_gV q_296 q_298 q_0 q_66 q_299) rfl rfl rfl pdVX6_refuse ⟨Nat.le_of_ble_eq_true rfl, Nat.le_of_ble_eq_true rfl⟩) hK hP hD hG hS hA (va_recv hK hP (ci := 6) (q0 := 0) rfl (oh_wg (by decide) (sX_0 hT))) rfl hl.1 rfl (Nat.le_of_ble_eq_true rfl) dX6_best_26 ⟨Nat.le_of_ble_eq_true rfl, Nat.le_of_ble_eq_true rfl⟩ (fun r_36 C_37 H locs hq_38 hP hD hS => ?_)
        obtain ⟨hT, f_39, hq_38⟩ := hq_38
        have hF := fr_tr hF f_39 (by decide) (by decide)
        refine W.widen (k := 0) (n := 0) (Nat.le_refl _) (Nat.le_refl _) ?_
        have t_40 := hT
        rw [hQ]
        exact W.iret (v := r_36) hx hb hr (fun t ht hW => ⟨⟨r_36, C_37, rfl, ⟨hT, hF, trivial⟩, ⟨by rw [ht]; exact hP, hD⟩⟩, hS.F ht⟩) hS.2.2 dX6_best_29

set_option maxHeartbeats 4000000 in
set_option maxRecDepth 100000 in
theorem c_X6_judge (l : Launch) (D : va_G) (E : Nat → ClassId) (G : Nat → Nat) (sz : Nat) (a : Nat → Nat) (C : Nat → va_E) (hT : TyX a E C) (x1 : Int32) (x2 : Int32) (x3 : Int32) (x4 : Int32) (x5 : Int32) : Met l yX6_judge (oh_w yX6_judge cX6_judge 7 (some .int)) ({ frames := 5, cells := 0, slots := 0, locals := 113 }) (oh_Pm D E G [.ref (a 0), .int x1, .int x2, .int x3, .int x4, .int x5] (oh_W 35 a C) sz) (va_Qi (fun r (u : Nat → va_E) => TyX a E u ∧ fr [(7, 8), (9, 10), (24, 26), (28, 29)] [] C u ∧ True) (oh_B D (va_A (oh_W 35 a C) sz) (fun u => oh_W 35 a u)) (va_A (oh_W 35 a C) sz)) 0 0 (va_A (oh_W 35 a C) sz) := by
  refine Met.ofW (cc := cX6_judge) (maxL := 7) (ret := (some .int)) (by decide) rfl ?_
  intro p e s m args below meth c s₁ B hml hv
  obtain ⟨rfl, hsz, hP, hK, hD0, hG⟩ := hv
  have hx := B.exec
  have hb := B.bytes
  have hr := B.returns
  have hts := atoms_spec (ws := (oh_w yX6_judge cX6_judge 7 (some .int))) B.pre
  have htg : ∀ w ∈ oh_t, w.before _ s = true := fun w h => hts w (List.mem_cons_of_mem _ h)
  have hown : s.vm.findClass RX6 = some m.cls := findClass_of_methodNamed B.named
  have hlocks := B.notSynchronized
  have hT0 := hT
  subst hsz
  have hD := hD0.self (sz := s.heap.size)
  generalize hAe : va_A (oh_W 35 a C) s.heap.size = A at hD hG ⊢
  have hA : ∀ q : Nat, s.heap.size ≤ q → A q := fun q h => by rw [← hAe]; exact Or.inr h
  have hS : va_S A s.heap s.heap [] := va_S.rf
  have hF : fr [(7, 8), (9, 10), (24, 26), (28, 29)] [] C C := fr_rf
  have hl := lv_entry ([.ref (a 0), .int x1, .int x2, .int x3, .int x4, .int x5]) (n := 7) (Nat.le_of_ble_eq_true rfl)
  rw [lg_entry_eq]
  generalize (lg_sl ([.ref (a 0), .int x1, .int x2, .int x3, .int x4, .int x5]) ++ List.replicate (7 - (lg_sl ([.ref (a 0), .int x1, .int x2, .int x3, .int x4, .int x5])).length) Slot.unset).toArray = ls at hl ⊢
  have hl : lv_has ls 7 [(0, .ref (a 0)), (1, .int x1), (2, .int x2), (3, .int x3), (4, .int x4), (5, .int x5)] := hl
  refine oh_genQ (fun Q hQ => ?_)
  refine lv_aload_n hx hb dX6_judge_0 rfl (lv_at hl 0 rfl) ?_
  refine lv_iload_n hx hb dX6_judge_1 rfl (lv_at hl 1 rfl) ?_
  refine lv_iload_n hx hb dX6_judge_2 rfl (lv_at hl 2 rfl) ?_
  refine lv_iload_n hx hb dX6_judge_3 rfl (lv_at hl 3 rfl) ?_
  refine lv_iload hx hb dX6_judge_4 (lv_at hl 4 rfl) ?_
  refine lv_iload hx hb dX6_judge_6 (lv_at hl 5 rfl) ?_
  refine tq_V (As := [.int x1, .int x2, .int x3, .int x4, .int x5]) (rest := []) (ws := (oh_W 35 a C)) ⟨hx, hb, hml, hown, htg⟩ (c_X6_whyNotTold l D E G a C hT x1 x2 x3 x4 x5) (cwV 5 htg (oh_gV q_830 q_832 q_23 q_66 q_833) rfl rfl rfl pdVX6_whyNotTold ⟨Nat.le_of_ble_eq_true rfl, Nat.le_of_ble_eq_true rfl⟩) hK hP hG hS (va_recv hK hP (ci := 6) (q0 := 0) rfl (oh_wg (by decide) (sX_0 hT))) rfl hl.1 rfl (Nat.le_of_ble_eq_true rfl) dX6_judge_8 ⟨Nat.le_of_ble_eq_true rfl, Nat.le_of_ble_eq_true rfl⟩ (fun r_1 hq_2 => ?_)
  refine lv_istore (lv' := [(6, .int r_1), (0, .ref (a 0)), (1, .int x1), (2, .int x2), (3, .int x3), (4, .int x4), (5, .int x5)]) hx hb dX6_judge_11 hl (by decide) rfl (fun ls hl => ?_)
  refine lv_iload hx hb dX6_judge_13 (lv_at hl 0 rfl) ?_
  refine lv_if_eq (tgt := 25) hx hb dX6_judge_15 (by decide) (fun (c_3 : r_1 = 0) => ?_) (fun (c_3 : ¬ (r_1 = 0)) => ?_)
  · have u_4 := hq_2 c_3
    refine lv_aload_n hx hb dX6_judge_25 rfl (lv_at hl 1 rfl) ?_
    refine va_get (D := D) (ci := 6) (v := .ref (a 3)) (C := RX6) (T := TX6) (N := 9) hx hb htg ig_6 hown hK hP 0 (oh_wg (by decide) (sX_0 hT)) rfl 3 (by decide) (htg _ q_261) (fun _ h9 => h9) rfl dX6_judge_26 ?_
    refine lv_iload_n hx hb dX6_judge_29 rfl (lv_at hl 2 rfl) ?_
    refine lv_iload_n hx hb dX6_judge_30 rfl (lv_at hl 3 rfl) ?_
    refine tm_Vv (As := [.int x1, .int x2]) (rest := []) ⟨hx, hb, hml, hown, htg⟩ (c_X5_survey l D E G _ a C hT x1 x2 (rg_w u_4.1 (by decide))) (cwV 2 htg (oh_gV q_750 q_751 q_752 q_68 q_753) rfl rfl rfl pdVX5_survey ⟨Nat.le_of_ble_eq_true rfl, Nat.le_of_ble_eq_true rfl⟩) hK hP hD hG hS hA (va_recv hK hP (ci := 5) (q0 := 3) rfl (oh_wg (by decide) (sX_3 hT))) rfl hl.1 rfl (Nat.le_of_ble_eq_true rfl) dX6_judge_31 ⟨Nat.le_of_ble_eq_true rfl, Nat.le_of_ble_eq_true rfl⟩ (fun C_6 H locs hq_7 hP hD hS => ?_)
    obtain ⟨hT, f_8, hq_7⟩ := hq_7
    have hF := fr_tr hF f_8 (by decide) (by decide)
    refine W.widen (k := 0) (n := 0) (Nat.le_refl _) (Nat.le_refl _) ?_
    have t_9 := hT
    refine lv_aload_n hx hb dX6_judge_34 rfl (lv_at hl 1 rfl) ?_
    refine lv_iload_n hx hb dX6_judge_35 rfl (lv_at hl 4 rfl) ?_
    refine lv_iload hx hb dX6_judge_36 (lv_at hl 5 rfl) ?_
    refine lv_iload hx hb dX6_judge_38 (lv_at hl 6 rfl) ?_
    refine tm_V (As := [.int x3, .int x4, .int x5]) (rest := []) ⟨hx, hb, hml, hown, htg⟩ (c_X6_firstWrong l D E G _ a C_6 hT x3 x4 x5 (rg_w u_4.2.1 (by decide)) (rg_w u_4.2.2.1 (by decide)) (rg_w u_4.2.2.2 (by decide))) (cwV 3 htg (oh_gV q_834 q_836 q_24 q_66 q_837) rfl rfl rfl pdVX6_firstWrong ⟨Nat.le_of_ble_eq_true rfl, Nat.le_of_ble_eq_true rfl⟩) hK hP hD hG hS hA (va_recv hK hP (ci := 6) (q0 := 0) rfl (oh_wg (by decide) (sX_0 hT))) rfl hl.1 rfl (Nat.le_of_ble_eq_true rfl) dX6_judge_40 ⟨Nat.le_of_ble_eq_true rfl, Nat.le_of_ble_eq_true rfl⟩ (fun r_10 C_11 H locs hq_12 hP hD hS => ?_)
    obtain ⟨hT, f_13, hq_12⟩ := hq_12
    have hF := fr_tr hF f_13 (by decide) (by decide)
    refine W.widen (k := 0) (n := 0) (Nat.le_refl _) (Nat.le_refl _) ?_
    have t_14 := hT
    rw [hQ]
    exact W.iret (v := r_10) hx hb hr (fun t ht hW => ⟨⟨r_10, C_11, rfl, ⟨hT, hF, trivial⟩, ⟨by rw [ht]; exact hP, hD⟩⟩, hS.F ht⟩) hS.2.2 dX6_judge_43
  · refine lv_aload_n hx hb dX6_judge_18 rfl (lv_at hl 1 rfl) ?_
    refine lv_iload hx hb dX6_judge_19 (lv_at hl 0 rfl) ?_
    refine tm_V (As := [.int r_1]) (rest := []) ⟨hx, hb, hml, hown, htg⟩ (c_X6_refuse l D E G _ a C hT r_1) (cwV 1 htg (oh_gV q_296 q_298 q_0 q_66 q_299) rfl rfl rfl pdVX6_refuse ⟨Nat.le_of_ble_eq_true rfl, Nat.le_of_ble_eq_true rfl⟩) hK hP hD hG hS hA (va_recv hK hP (ci := 6) (q0 := 0) rfl (oh_wg (by decide) (sX_0 hT))) rfl hl.1 rfl (Nat.le_of_ble_eq_true rfl) dX6_judge_21 ⟨Nat.le_of_ble_eq_true rfl, Nat.le_of_ble_eq_true rfl⟩ (fun r_15 C_16 H locs hq_17 hP hD hS => ?_)
    obtain ⟨hT, f_18, hq_17⟩ := hq_17
    have hF := fr_tr hF f_18 (by decide) (by decide)
    refine W.widen (k := 0) (n := 0) (Nat.le_refl _) (Nat.le_refl _) ?_
    have t_19 := hT
    rw [hQ]
    exact W.iret (v := r_15) hx hb hr (fun t ht hW => ⟨⟨r_15, C_16, rfl, ⟨hT, hF, trivial⟩, ⟨by rw [ht]; exact hP, hD⟩⟩, hS.F ht⟩) hS.2.2 dX6_judge_24

set_option maxHeartbeats 4000000 in
set_option maxRecDepth 100000 in
theorem c_X6_told (l : Launch) (D : va_G) (E : Nat → ClassId) (G : Nat → Nat) (sz : Nat) (a : Nat → Nat) (C : Nat → va_E) (hT : TyX a E C) (x1 : Int32) (x2 : Int32) (x3 : Int32) (x4 : Int32) (x5 : Int32) (x6 : Int32) : Met l yX6_told (oh_w yX6_told cX6_told 8 (some .int)) ({ frames := 5, cells := 0, slots := 0, locals := 113 }) (oh_Pm D E G [.ref (a 0), .int x1, .int x2, .int x3, .int x4, .int x5, .int x6] (oh_W 35 a C) sz) (va_Qi (fun r (u : Nat → va_E) => TyX a E u ∧ fr [(7, 8), (9, 10), (24, 26), (28, 29)] [] C u ∧ True) (oh_B D (va_A (oh_W 35 a C) sz) (fun u => oh_W 35 a u)) (va_A (oh_W 35 a C) sz)) 0 0 (va_A (oh_W 35 a C) sz) := by
  refine Met.ofW (cc := cX6_told) (maxL := 8) (ret := (some .int)) (by decide) rfl ?_
  intro p e s m args below meth c s₁ B hml hv
  obtain ⟨rfl, hsz, hP, hK, hD0, hG⟩ := hv
  have hx := B.exec
  have hb := B.bytes
  have hr := B.returns
  have hts := atoms_spec (ws := (oh_w yX6_told cX6_told 8 (some .int))) B.pre
  have htg : ∀ w ∈ oh_t, w.before _ s = true := fun w h => hts w (List.mem_cons_of_mem _ h)
  have hown : s.vm.findClass RX6 = some m.cls := findClass_of_methodNamed B.named
  have hlocks := B.notSynchronized
  have hT0 := hT
  subst hsz
  have hD := hD0.self (sz := s.heap.size)
  generalize hAe : va_A (oh_W 35 a C) s.heap.size = A at hD hG ⊢
  have hA : ∀ q : Nat, s.heap.size ≤ q → A q := fun q h => by rw [← hAe]; exact Or.inr h
  have hS : va_S A s.heap s.heap [] := va_S.rf
  have hF : fr [(7, 8), (9, 10), (24, 26), (28, 29)] [] C C := fr_rf
  have hl := lv_entry ([.ref (a 0), .int x1, .int x2, .int x3, .int x4, .int x5, .int x6]) (n := 8) (Nat.le_of_ble_eq_true rfl)
  rw [lg_entry_eq]
  generalize (lg_sl ([.ref (a 0), .int x1, .int x2, .int x3, .int x4, .int x5, .int x6]) ++ List.replicate (8 - (lg_sl ([.ref (a 0), .int x1, .int x2, .int x3, .int x4, .int x5, .int x6])).length) Slot.unset).toArray = ls at hl ⊢
  have hl : lv_has ls 8 [(0, .ref (a 0)), (1, .int x1), (2, .int x2), (3, .int x3), (4, .int x4), (5, .int x5), (6, .int x6)] := hl
  refine oh_genQ (fun Q hQ => ?_)
  refine lv_iload hx hb dX6_told_0 (lv_at hl 6 rfl) ?_
  refine lv_iconst (v := 0) hx hb dX6_told_2 (by decide) ?_
  refine lv_iconst (v := 3) hx hb dX6_told_3 (by decide) ?_
  refine tq_S (As := [.int x6, .int 0, .int 3]) (rest := []) (ws := []) ⟨hx, hb, hml, hown, htg⟩ (c_X6_within l D E G x6 (0 : Int32) (3 : Int32)) (va_cwS 3 htg (oh_gS q_293 q_294 q_66 q_295) rfl rfl rfl pdX6_within ⟨Nat.le_of_ble_eq_true rfl, Nat.le_of_ble_eq_true rfl⟩) hK va_nil hG hS rfl hl.1 rfl (Nat.le_of_ble_eq_true rfl) dX6_told_4 ⟨Nat.le_of_ble_eq_true rfl, Nat.le_of_ble_eq_true rfl⟩ (fun r_1 hq_2 => ?_)
  refine lv_if_eq (tgt := 24) hx hb dX6_told_7 (by decide) (fun (c_3 : r_1 = 0) => ?_) (fun (c_3 : ¬ (r_1 = 0)) => ?_)
  · have u_4 := hq_2.2.2 c_3
    refine lv_bipush (v := (-2)) hx hb dX6_told_24 (by decide) ?_
    refine lv_istore (lv' := [(7, .int (-2)), (0, .ref (a 0)), (1, .int x1), (2, .int x2), (3, .int x3), (4, .int x4), (5, .int x5), (6, .int x6)]) hx hb dX6_told_26 hl (by decide) rfl (fun ls hl => ?_)
    refine lv_iload hx hb dX6_told_28 (lv_at hl 0 rfl) ?_
    refine lv_if_eq (tgt := 40) hx hb dX6_told_30 (by decide) (fun c => absurd c (show ¬ (((-2) : Int32) = 0) from by decide)) (fun _ => ?_)
    refine lv_aload_n hx hb dX6_told_33 rfl (lv_at hl 1 rfl) ?_
    refine lv_iload hx hb dX6_told_34 (lv_at hl 0 rfl) ?_
    refine tm_V (As := [.int (-2)]) (rest := []) ⟨hx, hb, hml, hown, htg⟩ (c_X6_refuse l D E G _ a C hT ((-2) : Int32)) (cwV 1 htg (oh_gV q_296 q_298 q_0 q_66 q_299) rfl rfl rfl pdVX6_refuse ⟨Nat.le_of_ble_eq_true rfl, Nat.le_of_ble_eq_true rfl⟩) hK hP hD hG hS hA (va_recv hK hP (ci := 6) (q0 := 0) rfl (oh_wg (by decide) (sX_0 hT))) rfl hl.1 rfl (Nat.le_of_ble_eq_true rfl) dX6_told_36 ⟨Nat.le_of_ble_eq_true rfl, Nat.le_of_ble_eq_true rfl⟩ (fun r_5 C_6 H locs hq_7 hP hD hS => ?_)
    obtain ⟨hT, f_8, hq_7⟩ := hq_7
    have hF := fr_tr hF f_8 (by decide) (by decide)
    refine W.widen (k := 0) (n := 0) (Nat.le_refl _) (Nat.le_refl _) ?_
    have t_9 := hT
    rw [hQ]
    exact W.iret (v := r_5) hx hb hr (fun t ht hW => ⟨⟨r_5, C_6, rfl, ⟨hT, hF, trivial⟩, ⟨by rw [ht]; exact hP, hD⟩⟩, hS.F ht⟩) hS.2.2 dX6_told_39
  · have u_10 := hq_2.2.1 c_3
    refine lv_aload_n hx hb dX6_told_10 rfl (lv_at hl 0 rfl) ?_
    refine lv_iload_n hx hb dX6_told_11 rfl (lv_at hl 1 rfl) ?_
    refine lv_iload_n hx hb dX6_told_12 rfl (lv_at hl 2 rfl) ?_
    refine lv_iload_n hx hb dX6_told_13 rfl (lv_at hl 3 rfl) ?_
    refine lv_iload hx hb dX6_told_14 (lv_at hl 4 rfl) ?_
    refine lv_iload hx hb dX6_told_16 (lv_at hl 5 rfl) ?_
    refine tq_V (As := [.int x1, .int x2, .int x3, .int x4, .int x5]) (rest := []) (ws := (oh_W 35 a C)) ⟨hx, hb, hml, hown, htg⟩ (c_X6_whyNotTold l D E G a C hT x1 x2 x3 x4 x5) (cwV 5 htg (oh_gV q_830 q_832 q_23 q_66 q_833) rfl rfl rfl pdVX6_whyNotTold ⟨Nat.le_of_ble_eq_true rfl, Nat.le_of_ble_eq_true rfl⟩) hK hP hG hS (va_recv hK hP (ci := 6) (q0 := 0) rfl (oh_wg (by decide) (sX_0 hT))) rfl hl.1 rfl (Nat.le_of_ble_eq_true rfl) dX6_told_18 ⟨Nat.le_of_ble_eq_true rfl, Nat.le_of_ble_eq_true rfl⟩ (fun r_11 hq_12 => ?_)
    refine lv_goto (tgt := 26) hx hb dX6_told_21 (by decide) ?_
    refine lv_istore (lv' := [(7, .int r_11), (0, .ref (a 0)), (1, .int x1), (2, .int x2), (3, .int x3), (4, .int x4), (5, .int x5), (6, .int x6)]) hx hb dX6_told_26 hl (by decide) rfl (fun ls hl => ?_)
    refine lv_iload hx hb dX6_told_28 (lv_at hl 0 rfl) ?_
    refine lv_if_eq (tgt := 40) hx hb dX6_told_30 (by decide) (fun (c_13 : r_11 = 0) => ?_) (fun (c_13 : ¬ (r_11 = 0)) => ?_)
    · have u_14 := hq_12 c_13
      refine lv_aload_n hx hb dX6_told_40 rfl (lv_at hl 1 rfl) ?_
      refine va_get (D := D) (ci := 6) (v := .ref (a 3)) (C := RX6) (T := TX6) (N := 9) hx hb htg ig_6 hown hK hP 0 (oh_wg (by decide) (sX_0 hT)) rfl 3 (by decide) (htg _ q_261) (fun _ h9 => h9) rfl dX6_told_41 ?_
      refine lv_iload_n hx hb dX6_told_44 rfl (lv_at hl 2 rfl) ?_
      refine lv_iload_n hx hb dX6_told_45 rfl (lv_at hl 3 rfl) ?_
      refine tm_Vv (As := [.int x1, .int x2]) (rest := []) ⟨hx, hb, hml, hown, htg⟩ (c_X5_survey l D E G _ a C hT x1 x2 (rg_w u_14.1 (by decide))) (cwV 2 htg (oh_gV q_750 q_751 q_752 q_68 q_753) rfl rfl rfl pdVX5_survey ⟨Nat.le_of_ble_eq_true rfl, Nat.le_of_ble_eq_true rfl⟩) hK hP hD hG hS hA (va_recv hK hP (ci := 5) (q0 := 3) rfl (oh_wg (by decide) (sX_3 hT))) rfl hl.1 rfl (Nat.le_of_ble_eq_true rfl) dX6_told_46 ⟨Nat.le_of_ble_eq_true rfl, Nat.le_of_ble_eq_true rfl⟩ (fun C_16 H locs hq_17 hP hD hS => ?_)
      obtain ⟨hT, f_18, hq_17⟩ := hq_17
      have hF := fr_tr hF f_18 (by decide) (by decide)
      refine W.widen (k := 0) (n := 0) (Nat.le_refl _) (Nat.le_refl _) ?_
      have t_19 := hT
      refine lv_aload_n hx hb dX6_told_49 rfl (lv_at hl 1 rfl) ?_
      refine lv_iload_n hx hb dX6_told_50 rfl (lv_at hl 4 rfl) ?_
      refine lv_iload hx hb dX6_told_51 (lv_at hl 5 rfl) ?_
      refine lv_iload hx hb dX6_told_53 (lv_at hl 6 rfl) ?_
      refine tm_V (As := [.int x3, .int x4, .int x5]) (rest := []) ⟨hx, hb, hml, hown, htg⟩ (c_X6_firstWrong l D E G _ a C_16 hT x3 x4 x5 (rg_w u_14.2.1 (by decide)) (rg_w u_14.2.2.1 (by decide)) (rg_w u_14.2.2.2 (by decide))) (cwV 3 htg (oh_gV q_834 q_836 q_24 q_66 q_837) rfl rfl rfl pdVX6_firstWrong ⟨Nat.le_of_ble_eq_true rfl, Nat.le_of_ble_eq_true rfl⟩) hK hP hD hG hS hA (va_recv hK hP (ci := 6) (q0 := 0) rfl (oh_wg (by decide) (sX_0 hT))) rfl hl.1 rfl (Nat.le_of_ble_eq_true rfl) dX6_told_55 ⟨Nat.le_of_ble_eq_true rfl, Nat.le_of_ble_eq_true rfl⟩ (fun r_20 C_21 H locs hq_22 hP hD hS => ?_)
      obtain ⟨hT, f_23, hq_22⟩ := hq_22
      have hF := fr_tr hF f_23 (by decide) (by decide)
      refine W.widen (k := 0) (n := 0) (Nat.le_refl _) (Nat.le_refl _) ?_
      have t_24 := hT
      refine lv_iconst (v := (-1)) hx hb dX6_told_58 (by decide) ?_
      refine lv_icmp_eq (tgt := 69) hx hb dX6_told_59 (by decide) (fun (c_25 : r_20 = (-1)) => ?_) (fun (c_25 : ¬ (r_20 = (-1))) => ?_)
      · refine lv_iload hx hb dX6_told_69 (lv_at hl 7 rfl) ?_
        refine lv_iconst (v := 2) hx hb dX6_told_71 (by decide) ?_
        refine lv_icmp_ne (tgt := 90) hx hb dX6_told_72 (by decide) (fun (c_26 : ¬ (x6 = 2)) => ?_) (fun (c_26 : x6 = 2) => ?_)
        · refine lv_aload_n hx hb dX6_told_90 rfl (lv_at hl 1 rfl) ?_
          refine va_get (D := D) (ci := 6) (v := .ref (a 3)) (C := RX6) (T := TX6) (N := 9) hx hb htg ig_6 hown hK hP 0 (oh_wg (by decide) (sX_0 hT)) rfl 3 (by decide) (htg _ q_261) (fun _ h9 => h9) rfl dX6_told_91 ?_
          refine va_get (D := D) (ci := 5) (v := .ref (a 28)) (C := RX5) (T := TX5) (N := 7) hx hb htg ig_5 hown hK hP 3 (oh_wg (by decide) (sX_3 hT)) rfl 6 (by decide) (htg _ q_176) (fun _ h9 => h9) rfl dX6_told_94 ?_
          refine lv_iload hx hb dX6_told_97 (lv_at hl 7 rfl) ?_
          have n_27 : vp_in x6 4 := (rg_in (rn_leu u_10.2 (rn_lel u_10.1 (rg_c (v := 0) (lo := 0) (hi := 0) (by decide)) (rg_any _)) (rg_c (v := 3) (lo := 3) (hi := 3) (by decide))) (by decide))
          refine th_iald hx hb hK hP 28 (by decide) (sX_28 hT) n_27 dX6_told_99 ?_
          rw [hQ]
          exact W.iret (v := ga (C_21 28) (x6).toNatClampNeg) hx hb hr (fun t ht hW => ⟨⟨ga (C_21 28) (x6).toNatClampNeg, C_21, rfl, ⟨hT, hF, trivial⟩, ⟨by rw [ht]; exact hP, hD⟩⟩, hS.F ht⟩) hS.2.2 dX6_told_100
        · refine lv_aload_n hx hb dX6_told_75 rfl (lv_at hl 1 rfl) ?_
          refine va_get (D := D) (ci := 6) (v := .ref (a 3)) (C := RX6) (T := TX6) (N := 9) hx hb htg ig_6 hown hK hP 0 (oh_wg (by decide) (sX_0 hT)) rfl 3 (by decide) (htg _ q_261) (fun _ h9 => h9) rfl dX6_told_76 ?_
          refine va_get (D := D) (ci := 5) (v := .ref (a 28)) (C := RX5) (T := TX5) (N := 7) hx hb htg ig_5 hown hK hP 3 (oh_wg (by decide) (sX_3 hT)) rfl 6 (by decide) (htg _ q_176) (fun _ h9 => h9) rfl dX6_told_79 ?_
          refine lv_iconst (v := 2) hx hb dX6_told_82 (by decide) ?_
          refine th_iald hx hb hK hP 28 (by decide) (sX_28 hT) (rg_in (rg_c (v := 2) (lo := 2) (hi := 2) (by decide)) (by decide)) dX6_told_83 ?_
          refine tq_S (As := [.int (ga (C_21 28) ((2 : Int32)).toNatClampNeg)]) (rest := []) (ws := []) ⟨hx, hb, hml, hown, htg⟩ (c_J6_bitCount_0f7a4 l D E G (ga (C_21 28) ((2 : Int32)).toNatClampNeg)) (va_cwS 1 htg (oh_gS q_854 q_855 q_80 q_856) rfl rfl rfl pdJ6_bitCount_0f7a4 ⟨Nat.le_of_ble_eq_true rfl, Nat.le_of_ble_eq_true rfl⟩) hK va_nil hG hS rfl hl.1 rfl (Nat.le_of_ble_eq_true rfl) dX6_told_84 ⟨Nat.le_of_ble_eq_true rfl, Nat.le_of_ble_eq_true rfl⟩ (fun r_28 hq_29 => ?_)
          refine lv_goto (tgt := 100) hx hb dX6_told_87 (by decide) ?_
          rw [hQ]
          exact W.iret (v := r_28) hx hb hr (fun t ht hW => ⟨⟨r_28, C_21, rfl, ⟨hT, hF, trivial⟩, ⟨by rw [ht]; exact hP, hD⟩⟩, hS.F ht⟩) hS.2.2 dX6_told_100
      · refine lv_aload_n hx hb dX6_told_62 rfl (lv_at hl 1 rfl) ?_
        refine lv_bipush (v := (-5)) hx hb dX6_told_63 (by decide) ?_
        refine tm_V (As := [.int (-5)]) (rest := []) ⟨hx, hb, hml, hown, htg⟩ (c_X6_refuse l D E G _ a C_21 hT ((-5) : Int32)) (cwV 1 htg (oh_gV q_296 q_298 q_0 q_66 q_299) rfl rfl rfl pdVX6_refuse ⟨Nat.le_of_ble_eq_true rfl, Nat.le_of_ble_eq_true rfl⟩) hK hP hD hG hS hA (va_recv hK hP (ci := 6) (q0 := 0) rfl (oh_wg (by decide) (sX_0 hT))) rfl hl.1 rfl (Nat.le_of_ble_eq_true rfl) dX6_told_65 ⟨Nat.le_of_ble_eq_true rfl, Nat.le_of_ble_eq_true rfl⟩ (fun r_30 C_31 H locs hq_32 hP hD hS => ?_)
        obtain ⟨hT, f_33, hq_32⟩ := hq_32
        have hF := fr_tr hF f_33 (by decide) (by decide)
        refine W.widen (k := 0) (n := 0) (Nat.le_refl _) (Nat.le_refl _) ?_
        have t_34 := hT
        rw [hQ]
        exact W.iret (v := r_30) hx hb hr (fun t ht hW => ⟨⟨r_30, C_31, rfl, ⟨hT, hF, trivial⟩, ⟨by rw [ht]; exact hP, hD⟩⟩, hS.F ht⟩) hS.2.2 dX6_told_68
    · refine lv_aload_n hx hb dX6_told_33 rfl (lv_at hl 1 rfl) ?_
      refine lv_iload hx hb dX6_told_34 (lv_at hl 0 rfl) ?_
      refine tm_V (As := [.int r_11]) (rest := []) ⟨hx, hb, hml, hown, htg⟩ (c_X6_refuse l D E G _ a C hT r_11) (cwV 1 htg (oh_gV q_296 q_298 q_0 q_66 q_299) rfl rfl rfl pdVX6_refuse ⟨Nat.le_of_ble_eq_true rfl, Nat.le_of_ble_eq_true rfl⟩) hK hP hD hG hS hA (va_recv hK hP (ci := 6) (q0 := 0) rfl (oh_wg (by decide) (sX_0 hT))) rfl hl.1 rfl (Nat.le_of_ble_eq_true rfl) dX6_told_36 ⟨Nat.le_of_ble_eq_true rfl, Nat.le_of_ble_eq_true rfl⟩ (fun r_35 C_36 H locs hq_37 hP hD hS => ?_)
      obtain ⟨hT, f_38, hq_37⟩ := hq_37
      have hF := fr_tr hF f_38 (by decide) (by decide)
      refine W.widen (k := 0) (n := 0) (Nat.le_refl _) (Nat.le_refl _) ?_
      have t_39 := hT
      rw [hQ]
      exact W.iret (v := r_35) hx hb hr (fun t ht hW => ⟨⟨r_35, C_36, rfl, ⟨hT, hF, trivial⟩, ⟨by rw [ht]; exact hP, hD⟩⟩, hS.F ht⟩) hS.2.2 dX6_told_39

set_option maxHeartbeats 4000000 in
set_option maxRecDepth 100000 in
theorem c_X6_reach (l : Launch) (D : va_G) (E : Nat → ClassId) (G : Nat → Nat) (sz : Nat) (a : Nat → Nat) (C : Nat → va_E) (hT : TyX a E C) (x1 : Int32) (x2 : Int32) (x3 : Int32) : Met l yX6_reach (oh_w yX6_reach cX6_reach 4 (some .int)) ({ frames := 5, cells := 0, slots := 0, locals := 125 }) (oh_Pm D E G [.ref (a 0), .int x1, .int x2, .int x3] (oh_W 35 a C) sz) (va_Qi (fun r (u : Nat → va_E) => TyX a E u ∧ fr [(7, 8), (9, 10), (24, 28)] [] C u ∧ True) (oh_B D (va_A (oh_W 35 a C) sz) (fun u => oh_W 35 a u)) (va_A (oh_W 35 a C) sz)) 0 0 (va_A (oh_W 35 a C) sz) := by
  refine Met.ofW (cc := cX6_reach) (maxL := 4) (ret := (some .int)) (by decide) rfl ?_
  intro p e s m args below meth c s₁ B hml hv
  obtain ⟨rfl, hsz, hP, hK, hD0, hG⟩ := hv
  have hx := B.exec
  have hb := B.bytes
  have hr := B.returns
  have hts := atoms_spec (ws := (oh_w yX6_reach cX6_reach 4 (some .int))) B.pre
  have htg : ∀ w ∈ oh_t, w.before _ s = true := fun w h => hts w (List.mem_cons_of_mem _ h)
  have hown : s.vm.findClass RX6 = some m.cls := findClass_of_methodNamed B.named
  have hlocks := B.notSynchronized
  have hT0 := hT
  subst hsz
  have hD := hD0.self (sz := s.heap.size)
  generalize hAe : va_A (oh_W 35 a C) s.heap.size = A at hD hG ⊢
  have hA : ∀ q : Nat, s.heap.size ≤ q → A q := fun q h => by rw [← hAe]; exact Or.inr h
  have hS : va_S A s.heap s.heap [] := va_S.rf
  have hF : fr [(7, 8), (9, 10), (24, 28)] [] C C := fr_rf
  have hl := lv_entry ([.ref (a 0), .int x1, .int x2, .int x3]) (n := 4) (Nat.le_of_ble_eq_true rfl)
  rw [lg_entry_eq]
  generalize (lg_sl ([.ref (a 0), .int x1, .int x2, .int x3]) ++ List.replicate (4 - (lg_sl ([.ref (a 0), .int x1, .int x2, .int x3])).length) Slot.unset).toArray = ls at hl ⊢
  have hl : lv_has ls 4 [(0, .ref (a 0)), (1, .int x1), (2, .int x2), (3, .int x3)] := hl
  refine oh_genQ (fun Q hQ => ?_)
  refine lv_aload_n hx hb dX6_reach_0 rfl (lv_at hl 0 rfl) ?_
  refine lv_iload_n hx hb dX6_reach_1 rfl (lv_at hl 1 rfl) ?_
  refine lv_iload_n hx hb dX6_reach_2 rfl (lv_at hl 2 rfl) ?_
  refine tq_V (As := [.int x1, .int x2]) (rest := []) (ws := (oh_W 35 a C)) ⟨hx, hb, hml, hown, htg⟩ (c_X6_isPack l D E G a C hT x1 x2) (cwV 2 htg (oh_gV q_695 q_697 q_16 q_66 q_698) rfl rfl rfl pdVX6_isPack ⟨Nat.le_of_ble_eq_true rfl, Nat.le_of_ble_eq_true rfl⟩) hK hP hG hS (va_recv hK hP (ci := 6) (q0 := 0) rfl (oh_wg (by decide) (sX_0 hT))) rfl hl.1 rfl (Nat.le_of_ble_eq_true rfl) dX6_reach_3 ⟨Nat.le_of_ble_eq_true rfl, Nat.le_of_ble_eq_true rfl⟩ (fun r_1 hq_2 => ?_)
  refine lv_if_eq (tgt := 16) hx hb dX6_reach_6 (by decide) (fun (c_3 : r_1 = 0) => ?_) (fun (c_3 : ¬ (r_1 = 0)) => ?_)
  · refine lv_aload_n hx hb dX6_reach_16 rfl (lv_at hl 0 rfl) ?_
    refine lv_bipush (v := (-2)) hx hb dX6_reach_17 (by decide) ?_
    refine tm_V (As := [.int (-2)]) (rest := []) ⟨hx, hb, hml, hown, htg⟩ (c_X6_refuse l D E G _ a C hT ((-2) : Int32)) (cwV 1 htg (oh_gV q_296 q_298 q_0 q_66 q_299) rfl rfl rfl pdVX6_refuse ⟨Nat.le_of_ble_eq_true rfl, Nat.le_of_ble_eq_true rfl⟩) hK hP hD hG hS hA (va_recv hK hP (ci := 6) (q0 := 0) rfl (oh_wg (by decide) (sX_0 hT))) rfl hl.1 rfl (Nat.le_of_ble_eq_true rfl) dX6_reach_19 ⟨Nat.le_of_ble_eq_true rfl, Nat.le_of_ble_eq_true rfl⟩ (fun r_4 C_5 H locs hq_6 hP hD hS => ?_)
    obtain ⟨hT, f_7, hq_6⟩ := hq_6
    have hF := fr_tr hF f_7 (by decide) (by decide)
    refine W.widen (k := 0) (n := 0) (Nat.le_refl _) (Nat.le_refl _) ?_
    have t_8 := hT
    rw [hQ]
    exact W.iret (v := r_4) hx hb hr (fun t ht hW => ⟨⟨r_4, C_5, rfl, ⟨hT, hF, trivial⟩, ⟨by rw [ht]; exact hP, hD⟩⟩, hS.F ht⟩) hS.2.2 dX6_reach_22
  · have u_9 := hq_2.2 c_3
    refine lv_iload_n hx hb dX6_reach_9 rfl (lv_at hl 3 rfl) ?_
    refine tq_S (As := [.int x3]) (rest := []) (ws := []) ⟨hx, hb, hml, hown, htg⟩ (c_X6_isPlace l D E G x3) (va_cwS 1 htg (oh_gS q_413 q_414 q_66 q_415) rfl rfl rfl pdX6_isPlace ⟨Nat.le_of_ble_eq_true rfl, Nat.le_of_ble_eq_true rfl⟩) hK va_nil hG hS rfl hl.1 rfl (Nat.le_of_ble_eq_true rfl) dX6_reach_10 ⟨Nat.le_of_ble_eq_true rfl, Nat.le_of_ble_eq_true rfl⟩ (fun r_10 hq_11 => ?_)
    refine lv_if_ne (tgt := 23) hx hb dX6_reach_13 (by decide) (fun (c_12 : ¬ (r_10 = 0)) => ?_) (fun (c_12 : r_10 = 0) => ?_)
    · have u_13 := hq_11.2 c_12
      refine lv_aload_n hx hb dX6_reach_23 rfl (lv_at hl 0 rfl) ?_
      refine va_get (D := D) (ci := 6) (v := .ref (a 3)) (C := RX6) (T := TX6) (N := 9) hx hb htg ig_6 hown hK hP 0 (oh_wg (by decide) (sX_0 hT)) rfl 3 (by decide) (htg _ q_261) (fun _ h9 => h9) rfl dX6_reach_24 ?_
      refine lv_iload_n hx hb dX6_reach_27 rfl (lv_at hl 1 rfl) ?_
      refine lv_iload_n hx hb dX6_reach_28 rfl (lv_at hl 2 rfl) ?_
      refine lv_iload_n hx hb dX6_reach_29 rfl (lv_at hl 3 rfl) ?_
      refine tm_V (As := [.int x1, .int x2, .int x3]) (rest := []) ⟨hx, hb, hml, hown, htg⟩ (c_X5_reached l D E G _ a C hT x1 x2 x3 (rg_w u_9 (by decide)) (rg_w u_13 (by decide))) (cwV 3 htg (oh_gV q_864 q_865 q_866 q_68 q_867) rfl rfl rfl pdVX5_reached ⟨Nat.le_of_ble_eq_true rfl, Nat.le_of_ble_eq_true rfl⟩) hK hP hD hG hS hA (va_recv hK hP (ci := 5) (q0 := 3) rfl (oh_wg (by decide) (sX_3 hT))) rfl hl.1 rfl (Nat.le_of_ble_eq_true rfl) dX6_reach_30 ⟨Nat.le_of_ble_eq_true rfl, Nat.le_of_ble_eq_true rfl⟩ (fun r_14 C_15 H locs hq_16 hP hD hS => ?_)
      obtain ⟨hT, f_17, hq_16⟩ := hq_16
      have hF := fr_tr hF f_17 (by decide) (by decide)
      refine W.widen (k := 0) (n := 0) (Nat.le_refl _) (Nat.le_refl _) ?_
      have t_18 := hT
      rw [hQ]
      exact W.iret (v := r_14) hx hb hr (fun t ht hW => ⟨⟨r_14, C_15, rfl, ⟨hT, hF, trivial⟩, ⟨by rw [ht]; exact hP, hD⟩⟩, hS.F ht⟩) hS.2.2 dX6_reach_33
    · refine lv_aload_n hx hb dX6_reach_16 rfl (lv_at hl 0 rfl) ?_
      refine lv_bipush (v := (-2)) hx hb dX6_reach_17 (by decide) ?_
      refine tm_V (As := [.int (-2)]) (rest := []) ⟨hx, hb, hml, hown, htg⟩ (c_X6_refuse l D E G _ a C hT ((-2) : Int32)) (cwV 1 htg (oh_gV q_296 q_298 q_0 q_66 q_299) rfl rfl rfl pdVX6_refuse ⟨Nat.le_of_ble_eq_true rfl, Nat.le_of_ble_eq_true rfl⟩) hK hP hD hG hS hA (va_recv hK hP (ci := 6) (q0 := 0) rfl (oh_wg (by decide) (sX_0 hT))) rfl hl.1 rfl (Nat.le_of_ble_eq_true rfl) dX6_reach_19 ⟨Nat.le_of_ble_eq_true rfl, Nat.le_of_ble_eq_true rfl⟩ (fun r_19 C_20 H locs hq_21 hP hD hS => ?_)
      obtain ⟨hT, f_22, hq_21⟩ := hq_21
      have hF := fr_tr hF f_22 (by decide) (by decide)
      refine W.widen (k := 0) (n := 0) (Nat.le_refl _) (Nat.le_refl _) ?_
      have t_23 := hT
      rw [hQ]
      exact W.iret (v := r_19) hx hb hr (fun t ht hW => ⟨⟨r_19, C_20, rfl, ⟨hT, hF, trivial⟩, ⟨by rw [ht]; exact hP, hD⟩⟩, hS.F ht⟩) hS.2.2 dX6_reach_22

set_option maxHeartbeats 4000000 in
set_option maxRecDepth 100000 in
theorem c_X6_hang (l : Launch) (D : va_G) (E : Nat → ClassId) (G : Nat → Nat) (sz : Nat) (a : Nat → Nat) (C : Nat → va_E) (hT : TyX a E C) (x1 : Int32) (x2 : Int32) (x3 : Int32) (x4 : Int32) : Met l yX6_hang (oh_w yX6_hang cX6_hang 9 (some .int)) ({ frames := 6, cells := 0, slots := 0, locals := 152 }) (oh_Pm D E G [.ref (a 0), .int x1, .int x2, .int x3, .int x4] (oh_W 35 a C) sz) (va_Qi (fun r (u : Nat → va_E) => TyX a E u ∧ fr [(7, 8), (9, 10), (12, 13), (24, 28)] [] C u ∧ True) (oh_B D (va_A (oh_W 35 a C) sz) (fun u => oh_W 35 a u)) (va_A (oh_W 35 a C) sz)) 0 0 (va_A (oh_W 35 a C) sz) := by
  refine Met.ofW (cc := cX6_hang) (maxL := 9) (ret := (some .int)) (by decide) rfl ?_
  intro p e s m args below meth c s₁ B hml hv
  obtain ⟨rfl, hsz, hP, hK, hD0, hG⟩ := hv
  have hx := B.exec
  have hb := B.bytes
  have hr := B.returns
  have hts := atoms_spec (ws := (oh_w yX6_hang cX6_hang 9 (some .int))) B.pre
  have htg : ∀ w ∈ oh_t, w.before _ s = true := fun w h => hts w (List.mem_cons_of_mem _ h)
  have hown : s.vm.findClass RX6 = some m.cls := findClass_of_methodNamed B.named
  have hlocks := B.notSynchronized
  have hT0 := hT
  subst hsz
  have hD := hD0.self (sz := s.heap.size)
  generalize hAe : va_A (oh_W 35 a C) s.heap.size = A at hD hG ⊢
  have hA : ∀ q : Nat, s.heap.size ≤ q → A q := fun q h => by rw [← hAe]; exact Or.inr h
  have hS : va_S A s.heap s.heap [] := va_S.rf
  have hF : fr [(7, 8), (9, 10), (12, 13), (24, 28)] [] C C := fr_rf
  have hl := lv_entry ([.ref (a 0), .int x1, .int x2, .int x3, .int x4]) (n := 9) (Nat.le_of_ble_eq_true rfl)
  rw [lg_entry_eq]
  generalize (lg_sl ([.ref (a 0), .int x1, .int x2, .int x3, .int x4]) ++ List.replicate (9 - (lg_sl ([.ref (a 0), .int x1, .int x2, .int x3, .int x4])).length) Slot.unset).toArray = ls at hl ⊢
  have hl : lv_has ls 9 [(0, .ref (a 0)), (1, .int x1), (2, .int x2), (3, .int x3), (4, .int x4)] := hl
  refine oh_genQ (fun Q hQ => ?_)
  refine lv_aload_n hx hb dX6_hang_0 rfl (lv_at hl 0 rfl) ?_
  refine lv_iload_n hx hb dX6_hang_1 rfl (lv_at hl 1 rfl) ?_
  refine lv_iload_n hx hb dX6_hang_2 rfl (lv_at hl 2 rfl) ?_
  refine lv_iload_n hx hb dX6_hang_3 rfl (lv_at hl 3 rfl) ?_
  refine lv_iload hx hb dX6_hang_4 (lv_at hl 4 rfl) ?_
  refine tq_V (As := [.int x1, .int x2, .int x3, .int x4]) (rest := []) (ws := (oh_W 35 a C)) ⟨hx, hb, hml, hown, htg⟩ (c_X6_isJourney l D E G a C hT x1 x2 x3 x4) (cwV 4 htg (oh_gV q_776 q_778 q_17 q_66 q_779) rfl rfl rfl pdVX6_isJourney ⟨Nat.le_of_ble_eq_true rfl, Nat.le_of_ble_eq_true rfl⟩) hK hP hG hS (va_recv hK hP (ci := 6) (q0 := 0) rfl (oh_wg (by decide) (sX_0 hT))) rfl hl.1 rfl (Nat.le_of_ble_eq_true rfl) dX6_hang_6 ⟨Nat.le_of_ble_eq_true rfl, Nat.le_of_ble_eq_true rfl⟩ (fun r_1 hq_2 => ?_)
  refine lv_if_ne (tgt := 19) hx hb dX6_hang_9 (by decide) (fun (c_3 : ¬ (r_1 = 0)) => ?_) (fun (c_3 : r_1 = 0) => ?_)
  · have u_4 := hq_2.2 c_3
    refine lv_aload_n hx hb dX6_hang_19 rfl (lv_at hl 0 rfl) ?_
    refine va_get (D := D) (ci := 6) (v := .ref (a 1)) (C := RX6) (T := TX6) (N := 9) hx hb htg ig_6 hown hK hP 0 (oh_wg (by decide) (sX_0 hT)) rfl 0 (by decide) (htg _ q_258) (fun _ h9 => h9) rfl dX6_hang_20 ?_
    refine va_get (D := D) (ci := 0) (v := .ref (a 10)) (C := RX0) (T := TX0) (N := 8) hx hb htg ig_0 hown hK hP 1 (oh_wg (by decide) (sX_1 hT)) rfl 0 (by decide) (htg _ q_100) (fun _ h9 => h9) rfl dX6_hang_23 ?_
    refine lv_iconst (v := 1) hx hb dX6_hang_26 (by decide) ?_
    refine th_iald hx hb hK hP 10 (by decide) (sX_10 hT) (rg_in (rg_c (v := 1) (lo := 1) (hi := 1) (by decide)) (by decide)) dX6_hang_27 ?_
    refine lv_if_eq (tgt := 49) hx hb dX6_hang_28 (by decide) (fun (c_5 : (ga (C 10) ((1 : Int32)).toNatClampNeg) = 0) => ?_) (fun (c_5 : ¬ ((ga (C 10) ((1 : Int32)).toNatClampNeg) = 0)) => ?_)
    · refine lv_aload_n hx hb dX6_hang_49 rfl (lv_at hl 0 rfl) ?_
      refine lv_bipush (v := (-5)) hx hb dX6_hang_50 (by decide) ?_
      refine tm_V (As := [.int (-5)]) (rest := []) ⟨hx, hb, hml, hown, htg⟩ (c_X6_refuse l D E G _ a C hT ((-5) : Int32)) (cwV 1 htg (oh_gV q_296 q_298 q_0 q_66 q_299) rfl rfl rfl pdVX6_refuse ⟨Nat.le_of_ble_eq_true rfl, Nat.le_of_ble_eq_true rfl⟩) hK hP hD hG hS hA (va_recv hK hP (ci := 6) (q0 := 0) rfl (oh_wg (by decide) (sX_0 hT))) rfl hl.1 rfl (Nat.le_of_ble_eq_true rfl) dX6_hang_52 ⟨Nat.le_of_ble_eq_true rfl, Nat.le_of_ble_eq_true rfl⟩ (fun r_6 C_7 H locs hq_8 hP hD hS => ?_)
      obtain ⟨hT, f_9, hq_8⟩ := hq_8
      have hF := fr_tr hF f_9 (by decide) (by decide)
      refine W.widen (k := 0) (n := 0) (Nat.le_refl _) (Nat.le_refl _) ?_
      have t_10 := hT
      rw [hQ]
      exact W.iret (v := r_6) hx hb hr (fun t ht hW => ⟨⟨r_6, C_7, rfl, ⟨hT, hF, trivial⟩, ⟨by rw [ht]; exact hP, hD⟩⟩, hS.F ht⟩) hS.2.2 dX6_hang_55
    · refine lv_aload_n hx hb dX6_hang_31 rfl (lv_at hl 0 rfl) ?_
      refine va_get (D := D) (ci := 6) (v := .ref (a 3)) (C := RX6) (T := TX6) (N := 9) hx hb htg ig_6 hown hK hP 0 (oh_wg (by decide) (sX_0 hT)) rfl 3 (by decide) (htg _ q_261) (fun _ h9 => h9) rfl dX6_hang_32 ?_
      refine lv_iload_n hx hb dX6_hang_35 rfl (lv_at hl 1 rfl) ?_
      refine lv_iload_n hx hb dX6_hang_36 rfl (lv_at hl 2 rfl) ?_
      refine lv_iload_n hx hb dX6_hang_37 rfl (lv_at hl 3 rfl) ?_
      refine lv_iload hx hb dX6_hang_38 (lv_at hl 4 rfl) ?_
      refine lv_iconst (v := 1) hx hb dX6_hang_40 (by decide) ?_
      refine tm_V (As := [.int x1, .int x2, .int x3, .int x4, .int 1]) (rest := []) ⟨hx, hb, hml, hown, htg⟩ (c_X5_leastCoin l D E G _ a C hT x1 x2 x3 x4 (1 : Int32) (rg_w u_4.1 (by decide)) (rg_w u_4.2.1 (by decide)) (rg_w u_4.2.2 (by decide))) (cwV 5 htg (oh_gV q_780 q_781 q_782 q_68 q_783) rfl rfl rfl pdVX5_leastCoin ⟨Nat.le_of_ble_eq_true rfl, Nat.le_of_ble_eq_true rfl⟩) hK hP hD hG hS hA (va_recv hK hP (ci := 5) (q0 := 3) rfl (oh_wg (by decide) (sX_3 hT))) rfl hl.1 rfl (Nat.le_of_ble_eq_true rfl) dX6_hang_41 ⟨Nat.le_of_ble_eq_true rfl, Nat.le_of_ble_eq_true rfl⟩ (fun r_11 C_12 H locs hq_13 hP hD hS => ?_)
      obtain ⟨hT, f_14, hq_13⟩ := hq_13
      have hF := fr_tr hF f_14 (by decide) (by decide)
      refine W.widen (k := 0) (n := 0) (Nat.le_refl _) (Nat.le_refl _) ?_
      have t_15 := hT
      refine lv_ldc (v := 1000000000) hx hb hown (htg _ q_803) dX6_hang_44 ?_
      refine lv_icmp_ne (tgt := 56) hx hb dX6_hang_46 (by decide) (fun (c_16 : ¬ (r_11 = 1000000000)) => ?_) (fun (c_16 : r_11 = 1000000000) => ?_)
      · refine lv_iconst (v := (-1)) hx hb dX6_hang_56 (by decide) ?_
        refine lv_istore (lv' := [(5, .int (-1)), (0, .ref (a 0)), (1, .int x1), (2, .int x2), (3, .int x3), (4, .int x4)]) hx hb dX6_hang_57 hl (by decide) rfl (fun ls hl => ?_)
        refine lv_iconst (v := (-1)) hx hb dX6_hang_59 (by decide) ?_
        refine lv_istore (lv' := [(6, .int (-1)), (5, .int (-1)), (0, .ref (a 0)), (1, .int x1), (2, .int x2), (3, .int x3), (4, .int x4)]) hx hb dX6_hang_60 hl (by decide) rfl (fun ls hl => ?_)
        refine lv_iconst (v := 0) hx hb dX6_hang_62 (by decide) ?_
        refine lv_istore (lv' := [(7, .int 0), (6, .int (-1)), (5, .int (-1)), (0, .ref (a 0)), (1, .int x1), (2, .int x2), (3, .int x3), (4, .int x4)]) hx hb dX6_hang_63 hl (by decide) rfl (fun ls hl => ?_)
        have L_65 : ∀ (d : Nat) (K65 : Nat → va_E) (z65_7 : Int32) (z65_6 : Int32) (z65_5 : Int32) (H : Heap) (locs : List Loc) (ls : Array Slot), (16 - z65_7.toInt).toNat = d → rg z65_7 0 16 → TyX a E K65 → fr [(7, 8), (9, 10), (12, 13), (24, 28)] [] C K65 → fr [(9, 10), (12, 13), (24, 28)] [] C_12 K65 → va_P D vwCl (oh_W 35 a K65) H → va_D A (oh_W 35 a K65) → va_S A s.heap H locs → lv_has ls 9 [(7, .int z65_7), (6, .int z65_6), (5, .int z65_5), (0, .ref (a 0)), (1, .int x1), (2, .int x2), (3, .int x3), (4, .int x4)] → W p l e ({ frames := 6, cells := 0, slots := 0, locals := 152 }) s m (([.ref (a 0), .int x1, .int x2, .int x3, .int x4] : List Value).toArray) below meth c H locs 0 0 Q (F0 m 65 ls []) := by
          intro d
          induction d using Nat.strongRecOn with
          | ind d ih_65 =>
          intro K65 z65_7 z65_6 z65_5 H locs ls hd_65 hz65_7 hT hF hLF_65 hP hD hS hl
          have t_17 := hT
          refine lv_iload hx hb dX6_hang_65 (lv_at hl 0 rfl) ?_
          refine lv_aload_n hx hb dX6_hang_67 rfl (lv_at hl 3 rfl) ?_
          refine va_get (D := D) (ci := 6) (v := .ref (a 1)) (C := RX6) (T := TX6) (N := 9) hx hb htg ig_6 hown hK hP 0 (oh_wg (by decide) (sX_0 hT)) rfl 0 (by decide) (htg _ q_258) (fun _ h9 => h9) rfl dX6_hang_68 ?_
          refine va_get (D := D) (ci := 0) (v := .ref (a 10)) (C := RX0) (T := TX0) (N := 8) hx hb htg ig_0 hown hK hP 1 (oh_wg (by decide) (sX_1 hT)) rfl 0 (by decide) (htg _ q_100) (fun _ h9 => h9) rfl dX6_hang_71 ?_
          refine lv_iconst (v := 1) hx hb dX6_hang_74 (by decide) ?_
          refine th_iald hx hb hK hP 10 (by decide) (Eq.trans (Eq.trans (hLF_65.1 10 rfl (by decide)) (f_14.1 10 rfl (by decide))) (sX_10 hT0)) (rg_in (rg_c (v := 1) (lo := 1) (hi := 1) (by decide)) (by decide)) dX6_hang_75 ?_
          refine lv_icmp_ge (tgt := 113) hx hb dX6_hang_76 (by decide) (fun (c_18 : (ga (C 10) ((1 : Int32)).toNatClampNeg) ≤ z65_7) => ?_) (fun (c_18 : ¬ ((ga (C 10) ((1 : Int32)).toNatClampNeg) ≤ z65_7)) => ?_)
          · refine lv_iload hx hb dX6_hang_113 (lv_at hl 2 rfl) ?_
            rw [hQ]
            exact W.iret (v := z65_5) hx hb hr (fun t ht hW => ⟨⟨z65_5, K65, rfl, ⟨hT, hF, trivial⟩, ⟨by rw [ht]; exact hP, hD⟩⟩, hS.F ht⟩) hS.2.2 dX6_hang_115
          · refine lv_aload_n hx hb dX6_hang_79 rfl (lv_at hl 3 rfl) ?_
            refine lv_iload hx hb dX6_hang_80 (lv_at hl 0 rfl) ?_
            refine lv_iload_n hx hb dX6_hang_82 rfl (lv_at hl 4 rfl) ?_
            refine lv_iload_n hx hb dX6_hang_83 rfl (lv_at hl 5 rfl) ?_
            refine lv_iload_n hx hb dX6_hang_84 rfl (lv_at hl 6 rfl) ?_
            refine lv_iload hx hb dX6_hang_85 (lv_at hl 7 rfl) ?_
            refine tm_V (As := [.int z65_7, .int x1, .int x2, .int x3, .int x4]) (rest := []) ⟨hx, hb, hml, hown, htg⟩ (c_X6_coinIfFallen l D E G _ a K65 hT z65_7 x1 x2 x3 x4 (rg_w (rn_ltu (u' := 15) (Int32.not_le.mp c_18) hz65_7 (rn_nel (l' := 1) c_5 (tA_rdc (lo := 0) (hi := 16) (tX_10 hT0) (rg_in (rg_c (v := 1) (lo := 1) (hi := 1) (by decide)) (by decide)) (show _ = 1 by decide) (by decide)) (rg_c (v := 0) (lo := 0) (hi := 0) (by decide)) (by decide)) (by decide)) (by decide)) (rg_w u_4.1 (by decide)) (rg_w u_4.2.1 (by decide)) (rg_w u_4.2.2 (by decide))) (cwV 5 htg (oh_gV q_872 q_874 q_26 q_66 q_875) rfl rfl rfl pdVX6_coinIfFallen ⟨Nat.le_of_ble_eq_true rfl, Nat.le_of_ble_eq_true rfl⟩) hK hP hD hG hS hA (va_recv hK hP (ci := 6) (q0 := 0) rfl (oh_wg (by decide) (sX_0 hT))) rfl hl.1 rfl (Nat.le_of_ble_eq_true rfl) dX6_hang_87 ⟨Nat.le_of_ble_eq_true rfl, Nat.le_of_ble_eq_true rfl⟩ (fun r_19 C_20 H locs hq_21 hP hD hS => ?_)
            obtain ⟨hT, f_22, hq_21⟩ := hq_21
            have hF := fr_tr hF f_22 (by decide) (by decide)
            refine W.widen (k := 0) (n := 0) (Nat.le_refl _) (Nat.le_refl _) ?_
            have t_23 := hT
            refine lv_istore (lv' := [(8, .int r_19), (7, .int z65_7), (6, .int z65_6), (5, .int z65_5), (0, .ref (a 0)), (1, .int x1), (2, .int x2), (3, .int x3), (4, .int x4)]) hx hb dX6_hang_90 hl (by decide) rfl (fun ls hl => ?_)
            refine lv_iload hx hb dX6_hang_92 (lv_at hl 0 rfl) ?_
            refine lv_iload hx hb dX6_hang_94 (lv_at hl 2 rfl) ?_
            refine lv_icmp_le (tgt := 107) hx hb dX6_hang_96 (by decide) (fun (c_24 : r_19 ≤ z65_6) => ?_) (fun (c_24 : ¬ (r_19 ≤ z65_6)) => ?_)
            · refine lv_iinc (v := z65_7 + 1) (lv' := [(7, .int (z65_7 + 1)), (8, .int r_19), (6, .int z65_6), (5, .int z65_5), (0, .ref (a 0)), (1, .int x1), (2, .int x2), (3, .int x3), (4, .int x4)]) hx hb dX6_hang_107 hl (k := 1) rfl (by rfl) (by decide) rfl (fun ls hl => ?_)
              refine lv_goto (tgt := 65) hx hb dX6_hang_110 (by decide) ?_
              exact ih_65 _ (hd_65 ▸ mu_up 16 (rn_ltu (u' := 15) (Int32.not_le.mp c_18) hz65_7 (rn_nel (l' := 1) c_5 (tA_rdc (lo := 0) (hi := 16) (tX_10 hT0) (rg_in (rg_c (v := 1) (lo := 1) (hi := 1) (by decide)) (by decide)) (show _ = 1 by decide) (by decide)) (rg_c (v := 0) (lo := 0) (hi := 0) (by decide)) (by decide)) (by decide)) (by decide)) C_20 (z65_7 + 1) z65_6 z65_5 _ _ ls rfl (rg_w (rg_add (lo := 1) (hi := 16) (rn_ltu (u' := 15) (Int32.not_le.mp c_18) hz65_7 (rn_nel (l' := 1) c_5 (tA_rdc (lo := 0) (hi := 16) (tX_10 hT0) (rg_in (rg_c (v := 1) (lo := 1) (hi := 1) (by decide)) (by decide)) (show _ = 1 by decide) (by decide)) (rg_c (v := 0) (lo := 0) (hi := 0) (by decide)) (by decide)) (by decide)) (rg_c (v := 1) (lo := 1) (hi := 1) (by decide)) (by decide)) (by decide)) hT hF (fr_tr hLF_65 f_22 (by decide) (by decide)) hP hD hS (lv_sub hl [0, 2, 3, 4, 5, 6, 7, 8] rfl)
            · refine lv_iload hx hb dX6_hang_99 (lv_at hl 0 rfl) ?_
              refine lv_istore (lv' := [(6, .int r_19), (8, .int r_19), (7, .int z65_7), (5, .int z65_5), (0, .ref (a 0)), (1, .int x1), (2, .int x2), (3, .int x3), (4, .int x4)]) hx hb dX6_hang_101 hl (by decide) rfl (fun ls hl => ?_)
              refine lv_iload hx hb dX6_hang_103 (lv_at hl 2 rfl) ?_
              refine lv_istore (lv' := [(5, .int z65_7), (6, .int r_19), (8, .int r_19), (7, .int z65_7), (0, .ref (a 0)), (1, .int x1), (2, .int x2), (3, .int x3), (4, .int x4)]) hx hb dX6_hang_105 hl (by decide) rfl (fun ls hl => ?_)
              refine lv_iinc (v := z65_7 + 1) (lv' := [(7, .int (z65_7 + 1)), (5, .int z65_7), (6, .int r_19), (8, .int r_19), (0, .ref (a 0)), (1, .int x1), (2, .int x2), (3, .int x3), (4, .int x4)]) hx hb dX6_hang_107 hl (k := 3) rfl (by rfl) (by decide) rfl (fun ls hl => ?_)
              refine lv_goto (tgt := 65) hx hb dX6_hang_110 (by decide) ?_
              exact ih_65 _ (hd_65 ▸ mu_up 16 (rn_ltu (u' := 15) (Int32.not_le.mp c_18) hz65_7 (rn_nel (l' := 1) c_5 (tA_rdc (lo := 0) (hi := 16) (tX_10 hT0) (rg_in (rg_c (v := 1) (lo := 1) (hi := 1) (by decide)) (by decide)) (show _ = 1 by decide) (by decide)) (rg_c (v := 0) (lo := 0) (hi := 0) (by decide)) (by decide)) (by decide)) (by decide)) C_20 (z65_7 + 1) r_19 z65_7 _ _ ls rfl (rg_w (rg_add (lo := 1) (hi := 16) (rn_ltu (u' := 15) (Int32.not_le.mp c_18) hz65_7 (rn_nel (l' := 1) c_5 (tA_rdc (lo := 0) (hi := 16) (tX_10 hT0) (rg_in (rg_c (v := 1) (lo := 1) (hi := 1) (by decide)) (by decide)) (show _ = 1 by decide) (by decide)) (rg_c (v := 0) (lo := 0) (hi := 0) (by decide)) (by decide)) (by decide)) (rg_c (v := 1) (lo := 1) (hi := 1) (by decide)) (by decide)) (by decide)) hT hF (fr_tr hLF_65 f_22 (by decide) (by decide)) hP hD hS (lv_sub hl [0, 2, 1, 4, 5, 6, 7, 8] rfl)
        exact L_65 _ C_12 0 (-1) (-1) _ _ ls rfl (rg_w (rg_c (v := 0) (lo := 0) (hi := 0) (by decide)) (by decide)) hT hF fr_rf hP hD hS (lv_sub hl [0, 1, 2, 3, 4, 5, 6, 7] rfl)
      · refine lv_aload_n hx hb dX6_hang_49 rfl (lv_at hl 0 rfl) ?_
        refine lv_bipush (v := (-5)) hx hb dX6_hang_50 (by decide) ?_
        refine tm_V (As := [.int (-5)]) (rest := []) ⟨hx, hb, hml, hown, htg⟩ (c_X6_refuse l D E G _ a C_12 hT ((-5) : Int32)) (cwV 1 htg (oh_gV q_296 q_298 q_0 q_66 q_299) rfl rfl rfl pdVX6_refuse ⟨Nat.le_of_ble_eq_true rfl, Nat.le_of_ble_eq_true rfl⟩) hK hP hD hG hS hA (va_recv hK hP (ci := 6) (q0 := 0) rfl (oh_wg (by decide) (sX_0 hT))) rfl hl.1 rfl (Nat.le_of_ble_eq_true rfl) dX6_hang_52 ⟨Nat.le_of_ble_eq_true rfl, Nat.le_of_ble_eq_true rfl⟩ (fun r_25 C_26 H locs hq_27 hP hD hS => ?_)
        obtain ⟨hT, f_28, hq_27⟩ := hq_27
        have hF := fr_tr hF f_28 (by decide) (by decide)
        refine W.widen (k := 0) (n := 0) (Nat.le_refl _) (Nat.le_refl _) ?_
        have t_29 := hT
        rw [hQ]
        exact W.iret (v := r_25) hx hb hr (fun t ht hW => ⟨⟨r_25, C_26, rfl, ⟨hT, hF, trivial⟩, ⟨by rw [ht]; exact hP, hD⟩⟩, hS.F ht⟩) hS.2.2 dX6_hang_55
  · refine lv_aload_n hx hb dX6_hang_12 rfl (lv_at hl 0 rfl) ?_
    refine lv_bipush (v := (-2)) hx hb dX6_hang_13 (by decide) ?_
    refine tm_V (As := [.int (-2)]) (rest := []) ⟨hx, hb, hml, hown, htg⟩ (c_X6_refuse l D E G _ a C hT ((-2) : Int32)) (cwV 1 htg (oh_gV q_296 q_298 q_0 q_66 q_299) rfl rfl rfl pdVX6_refuse ⟨Nat.le_of_ble_eq_true rfl, Nat.le_of_ble_eq_true rfl⟩) hK hP hD hG hS hA (va_recv hK hP (ci := 6) (q0 := 0) rfl (oh_wg (by decide) (sX_0 hT))) rfl hl.1 rfl (Nat.le_of_ble_eq_true rfl) dX6_hang_15 ⟨Nat.le_of_ble_eq_true rfl, Nat.le_of_ble_eq_true rfl⟩ (fun r_30 C_31 H locs hq_32 hP hD hS => ?_)
    obtain ⟨hT, f_33, hq_32⟩ := hq_32
    have hF := fr_tr hF f_33 (by decide) (by decide)
    refine W.widen (k := 0) (n := 0) (Nat.le_refl _) (Nat.le_refl _) ?_
    have t_34 := hT
    rw [hQ]
    exact W.iret (v := r_30) hx hb hr (fun t ht hW => ⟨⟨r_30, C_31, rfl, ⟨hT, hF, trivial⟩, ⟨by rw [ht]; exact hP, hD⟩⟩, hS.F ht⟩) hS.2.2 dX6_hang_18

set_option maxHeartbeats 4000000 in
set_option maxRecDepth 100000 in
theorem c_X6_fewest (l : Launch) (D : va_G) (E : Nat → ClassId) (G : Nat → Nat) (sz : Nat) (a : Nat → Nat) (C : Nat → va_E) (hT : TyX a E C) (x1 : Int32) (x2 : Int32) (x3 : Int32) : Met l yX6_fewest (oh_w yX6_fewest cX6_fewest 7 (some .int)) ({ frames := 5, cells := 0, slots := 0, locals := 124 }) (oh_Pm D E G [.ref (a 0), .int x1, .int x2, .int x3] (oh_W 35 a C) sz) (va_Qi (fun r (u : Nat → va_E) => TyX a E u ∧ fr [(7, 8), (9, 10), (24, 28)] [] C u ∧ True) (oh_B D (va_A (oh_W 35 a C) sz) (fun u => oh_W 35 a u)) (va_A (oh_W 35 a C) sz)) 0 0 (va_A (oh_W 35 a C) sz) := by
  refine Met.ofW (cc := cX6_fewest) (maxL := 7) (ret := (some .int)) (by decide) rfl ?_
  intro p e s m args below meth c s₁ B hml hv
  obtain ⟨rfl, hsz, hP, hK, hD0, hG⟩ := hv
  have hx := B.exec
  have hb := B.bytes
  have hr := B.returns
  have hts := atoms_spec (ws := (oh_w yX6_fewest cX6_fewest 7 (some .int))) B.pre
  have htg : ∀ w ∈ oh_t, w.before _ s = true := fun w h => hts w (List.mem_cons_of_mem _ h)
  have hown : s.vm.findClass RX6 = some m.cls := findClass_of_methodNamed B.named
  have hlocks := B.notSynchronized
  have hT0 := hT
  subst hsz
  have hD := hD0.self (sz := s.heap.size)
  generalize hAe : va_A (oh_W 35 a C) s.heap.size = A at hD hG ⊢
  have hA : ∀ q : Nat, s.heap.size ≤ q → A q := fun q h => by rw [← hAe]; exact Or.inr h
  have hS : va_S A s.heap s.heap [] := va_S.rf
  have hF : fr [(7, 8), (9, 10), (24, 28)] [] C C := fr_rf
  have hl := lv_entry ([.ref (a 0), .int x1, .int x2, .int x3]) (n := 7) (Nat.le_of_ble_eq_true rfl)
  rw [lg_entry_eq]
  generalize (lg_sl ([.ref (a 0), .int x1, .int x2, .int x3]) ++ List.replicate (7 - (lg_sl ([.ref (a 0), .int x1, .int x2, .int x3])).length) Slot.unset).toArray = ls at hl ⊢
  have hl : lv_has ls 7 [(0, .ref (a 0)), (1, .int x1), (2, .int x2), (3, .int x3)] := hl
  refine oh_genQ (fun Q hQ => ?_)
  refine lv_aload_n hx hb dX6_fewest_0 rfl (lv_at hl 0 rfl) ?_
  refine lv_iload_n hx hb dX6_fewest_1 rfl (lv_at hl 1 rfl) ?_
  refine tq_V (As := [.int x1]) (rest := []) (ws := (oh_W 35 a C)) ⟨hx, hb, hml, hown, htg⟩ (c_X6_isWaggon l D E G a C hT x1) (cwV 1 htg (oh_gV q_679 q_681 q_15 q_66 q_682) rfl rfl rfl pdVX6_isWaggon ⟨Nat.le_of_ble_eq_true rfl, Nat.le_of_ble_eq_true rfl⟩) hK hP hG hS (va_recv hK hP (ci := 6) (q0 := 0) rfl (oh_wg (by decide) (sX_0 hT))) rfl hl.1 rfl (Nat.le_of_ble_eq_true rfl) dX6_fewest_2 ⟨Nat.le_of_ble_eq_true rfl, Nat.le_of_ble_eq_true rfl⟩ (fun r_1 hq_2 => ?_)
  refine lv_if_eq (tgt := 22) hx hb dX6_fewest_5 (by decide) (fun (c_3 : r_1 = 0) => ?_) (fun (c_3 : ¬ (r_1 = 0)) => ?_)
  · refine lv_aload_n hx hb dX6_fewest_22 rfl (lv_at hl 0 rfl) ?_
    refine lv_bipush (v := (-2)) hx hb dX6_fewest_23 (by decide) ?_
    refine tm_V (As := [.int (-2)]) (rest := []) ⟨hx, hb, hml, hown, htg⟩ (c_X6_refuse l D E G _ a C hT ((-2) : Int32)) (cwV 1 htg (oh_gV q_296 q_298 q_0 q_66 q_299) rfl rfl rfl pdVX6_refuse ⟨Nat.le_of_ble_eq_true rfl, Nat.le_of_ble_eq_true rfl⟩) hK hP hD hG hS hA (va_recv hK hP (ci := 6) (q0 := 0) rfl (oh_wg (by decide) (sX_0 hT))) rfl hl.1 rfl (Nat.le_of_ble_eq_true rfl) dX6_fewest_25 ⟨Nat.le_of_ble_eq_true rfl, Nat.le_of_ble_eq_true rfl⟩ (fun r_4 C_5 H locs hq_6 hP hD hS => ?_)
    obtain ⟨hT, f_7, hq_6⟩ := hq_6
    have hF := fr_tr hF f_7 (by decide) (by decide)
    refine W.widen (k := 0) (n := 0) (Nat.le_refl _) (Nat.le_refl _) ?_
    have t_8 := hT
    rw [hQ]
    exact W.iret (v := r_4) hx hb hr (fun t ht hW => ⟨⟨r_4, C_5, rfl, ⟨hT, hF, trivial⟩, ⟨by rw [ht]; exact hP, hD⟩⟩, hS.F ht⟩) hS.2.2 dX6_fewest_28
  · have u_9 := hq_2.2 c_3
    refine lv_iload_n hx hb dX6_fewest_8 rfl (lv_at hl 2 rfl) ?_
    refine tq_S (As := [.int x2]) (rest := []) (ws := []) ⟨hx, hb, hml, hown, htg⟩ (c_X6_isPlace l D E G x2) (va_cwS 1 htg (oh_gS q_413 q_414 q_66 q_415) rfl rfl rfl pdX6_isPlace ⟨Nat.le_of_ble_eq_true rfl, Nat.le_of_ble_eq_true rfl⟩) hK va_nil hG hS rfl hl.1 rfl (Nat.le_of_ble_eq_true rfl) dX6_fewest_9 ⟨Nat.le_of_ble_eq_true rfl, Nat.le_of_ble_eq_true rfl⟩ (fun r_10 hq_11 => ?_)
    refine lv_if_eq (tgt := 22) hx hb dX6_fewest_12 (by decide) (fun (c_12 : r_10 = 0) => ?_) (fun (c_12 : ¬ (r_10 = 0)) => ?_)
    · refine lv_aload_n hx hb dX6_fewest_22 rfl (lv_at hl 0 rfl) ?_
      refine lv_bipush (v := (-2)) hx hb dX6_fewest_23 (by decide) ?_
      refine tm_V (As := [.int (-2)]) (rest := []) ⟨hx, hb, hml, hown, htg⟩ (c_X6_refuse l D E G _ a C hT ((-2) : Int32)) (cwV 1 htg (oh_gV q_296 q_298 q_0 q_66 q_299) rfl rfl rfl pdVX6_refuse ⟨Nat.le_of_ble_eq_true rfl, Nat.le_of_ble_eq_true rfl⟩) hK hP hD hG hS hA (va_recv hK hP (ci := 6) (q0 := 0) rfl (oh_wg (by decide) (sX_0 hT))) rfl hl.1 rfl (Nat.le_of_ble_eq_true rfl) dX6_fewest_25 ⟨Nat.le_of_ble_eq_true rfl, Nat.le_of_ble_eq_true rfl⟩ (fun r_13 C_14 H locs hq_15 hP hD hS => ?_)
      obtain ⟨hT, f_16, hq_15⟩ := hq_15
      have hF := fr_tr hF f_16 (by decide) (by decide)
      refine W.widen (k := 0) (n := 0) (Nat.le_refl _) (Nat.le_refl _) ?_
      have t_17 := hT
      rw [hQ]
      exact W.iret (v := r_13) hx hb hr (fun t ht hW => ⟨⟨r_13, C_14, rfl, ⟨hT, hF, trivial⟩, ⟨by rw [ht]; exact hP, hD⟩⟩, hS.F ht⟩) hS.2.2 dX6_fewest_28
    · have u_18 := hq_11.2 c_12
      refine lv_iload_n hx hb dX6_fewest_15 rfl (lv_at hl 3 rfl) ?_
      refine tq_S (As := [.int x3]) (rest := []) (ws := []) ⟨hx, hb, hml, hown, htg⟩ (c_X6_isPlace l D E G x3) (va_cwS 1 htg (oh_gS q_413 q_414 q_66 q_415) rfl rfl rfl pdX6_isPlace ⟨Nat.le_of_ble_eq_true rfl, Nat.le_of_ble_eq_true rfl⟩) hK va_nil hG hS rfl hl.1 rfl (Nat.le_of_ble_eq_true rfl) dX6_fewest_16 ⟨Nat.le_of_ble_eq_true rfl, Nat.le_of_ble_eq_true rfl⟩ (fun r_19 hq_20 => ?_)
      refine lv_if_ne (tgt := 29) hx hb dX6_fewest_19 (by decide) (fun (c_21 : ¬ (r_19 = 0)) => ?_) (fun (c_21 : r_19 = 0) => ?_)
      · have u_22 := hq_20.2 c_21
        refine lv_iconst (v := (-1)) hx hb dX6_fewest_29 (by decide) ?_
        refine lv_istore (lv' := [(4, .int (-1)), (0, .ref (a 0)), (1, .int x1), (2, .int x2), (3, .int x3)]) hx hb dX6_fewest_30 hl (by decide) rfl (fun ls hl => ?_)
        refine va_gets hx hb hG.2.2.2.1.1 hS hown (htg _ q_880) (fun _ h9 => h9) dX6_fewest_32 ?_
        refine lv_iconst (v := 3) hx hb dX6_fewest_35 (by decide) ?_
        refine va_ti (v := .int 5) hx hb hG.2.2.2.1.2 hS (rg_in (rg_c (v := 3) (lo := 3) (hi := 3) (by decide)) (by decide)) (by decide) dX6_fewest_36 ?_
        refine lv_iconst (v := 1) hx hb dX6_fewest_37 (by decide) ?_
        refine lv_iadd hx hb dX6_fewest_38 ?_
        refine oh_nrm (v := 6) (by decide) ?_
        refine lv_istore (lv' := [(5, .int 6), (4, .int (-1)), (0, .ref (a 0)), (1, .int x1), (2, .int x2), (3, .int x3)]) hx hb dX6_fewest_39 hl (by decide) rfl (fun ls hl => ?_)
        refine lv_iconst (v := 0) hx hb dX6_fewest_41 (by decide) ?_
        refine lv_istore (lv' := [(6, .int 0), (5, .int 6), (4, .int (-1)), (0, .ref (a 0)), (1, .int x1), (2, .int x2), (3, .int x3)]) hx hb dX6_fewest_42 hl (by decide) rfl (fun ls hl => ?_)
        have L_44 : ∀ (d : Nat) (K44 : Nat → va_E) (z44_6 : Int32) (z44_5 : Int32) (z44_4 : Int32) (H : Heap) (locs : List Loc) (ls : Array Slot), (32 - z44_6.toInt).toNat = d → rg z44_6 0 32 → TyX a E K44 → fr [(7, 8), (9, 10), (24, 28)] [] C K44 → fr [(9, 10), (24, 28)] [] C K44 → va_P D vwCl (oh_W 35 a K44) H → va_D A (oh_W 35 a K44) → va_S A s.heap H locs → lv_has ls 7 [(6, .int z44_6), (5, .int z44_5), (4, .int z44_4), (0, .ref (a 0)), (1, .int x1), (2, .int x2), (3, .int x3)] → W p l e ({ frames := 5, cells := 0, slots := 0, locals := 124 }) s m (([.ref (a 0), .int x1, .int x2, .int x3] : List Value).toArray) below meth c H locs 0 0 Q (F0 m 44 ls []) := by
          intro d
          induction d using Nat.strongRecOn with
          | ind d ih_44 =>
          intro K44 z44_6 z44_5 z44_4 H locs ls hd_44 hz44_6 hT hF hLF_44 hP hD hS hl
          have t_23 := hT
          refine lv_iload hx hb dX6_fewest_44 (lv_at hl 0 rfl) ?_
          refine lv_aload_n hx hb dX6_fewest_46 rfl (lv_at hl 3 rfl) ?_
          refine va_get (D := D) (ci := 6) (v := .ref (a 1)) (C := RX6) (T := TX6) (N := 9) hx hb htg ig_6 hown hK hP 0 (oh_wg (by decide) (sX_0 hT)) rfl 0 (by decide) (htg _ q_258) (fun _ h9 => h9) rfl dX6_fewest_47 ?_
          refine tq_V (As := []) (rest := [.int z44_6]) (ws := (oh_W 35 a K44)) ⟨hx, hb, hml, hown, htg⟩ (c_X0_setsOfParts l D E G a K44 hT) (cwV 0 htg (oh_gV q_699 q_700 q_701 q_67 q_702) rfl rfl rfl pdVX0_setsOfParts ⟨Nat.le_of_ble_eq_true rfl, Nat.le_of_ble_eq_true rfl⟩) hK hP hG hS (va_recv hK hP (ci := 0) (q0 := 1) rfl (oh_wg (by decide) (sX_1 hT))) rfl hl.1 rfl (Nat.le_of_ble_eq_true rfl) dX6_fewest_50 ⟨Nat.le_of_ble_eq_true rfl, Nat.le_of_ble_eq_true rfl⟩ (fun r_24 hq_25 => ?_)
          refine lv_icmp_ge (tgt := 98) hx hb dX6_fewest_53 (by decide) (fun (c_26 : r_24 ≤ z44_6) => ?_) (fun (c_26 : ¬ (r_24 ≤ z44_6)) => ?_)
          · refine lv_iload hx hb dX6_fewest_98 (lv_at hl 2 rfl) ?_
            refine lv_iconst (v := (-1)) hx hb dX6_fewest_100 (by decide) ?_
            refine lv_icmp_ne (tgt := 113) hx hb dX6_fewest_101 (by decide) (fun (c_27 : ¬ (z44_4 = (-1))) => ?_) (fun (c_27 : z44_4 = (-1)) => ?_)
            · refine lv_iload hx hb dX6_fewest_113 (lv_at hl 2 rfl) ?_
              rw [hQ]
              exact W.iret (v := z44_4) hx hb hr (fun t ht hW => ⟨⟨z44_4, K44, rfl, ⟨hT, hF, trivial⟩, ⟨by rw [ht]; exact hP, hD⟩⟩, hS.F ht⟩) hS.2.2 dX6_fewest_115
            · refine lv_aload_n hx hb dX6_fewest_104 rfl (lv_at hl 3 rfl) ?_
              refine lv_bipush (v := (-5)) hx hb dX6_fewest_105 (by decide) ?_
              refine tm_V (As := [.int (-5)]) (rest := []) ⟨hx, hb, hml, hown, htg⟩ (c_X6_refuse l D E G _ a K44 hT ((-5) : Int32)) (cwV 1 htg (oh_gV q_296 q_298 q_0 q_66 q_299) rfl rfl rfl pdVX6_refuse ⟨Nat.le_of_ble_eq_true rfl, Nat.le_of_ble_eq_true rfl⟩) hK hP hD hG hS hA (va_recv hK hP (ci := 6) (q0 := 0) rfl (oh_wg (by decide) (sX_0 hT))) rfl hl.1 rfl (Nat.le_of_ble_eq_true rfl) dX6_fewest_107 ⟨Nat.le_of_ble_eq_true rfl, Nat.le_of_ble_eq_true rfl⟩ (fun r_28 C_29 H locs hq_30 hP hD hS => ?_)
              obtain ⟨hT, f_31, hq_30⟩ := hq_30
              have hF := fr_tr hF f_31 (by decide) (by decide)
              refine W.widen (k := 0) (n := 0) (Nat.le_refl _) (Nat.le_refl _) ?_
              have t_32 := hT
              refine lv_goto (tgt := 115) hx hb dX6_fewest_110 (by decide) ?_
              rw [hQ]
              exact W.iret (v := r_28) hx hb hr (fun t ht hW => ⟨⟨r_28, C_29, rfl, ⟨hT, hF, trivial⟩, ⟨by rw [ht]; exact hP, hD⟩⟩, hS.F ht⟩) hS.2.2 dX6_fewest_115
          · refine lv_iload hx hb dX6_fewest_56 (lv_at hl 0 rfl) ?_
            refine tq_S (As := [.int z44_6]) (rest := []) (ws := []) ⟨hx, hb, hml, hown, htg⟩ (c_J6_bitCount_0f7a4 l D E G z44_6) (va_cwS 1 htg (oh_gS q_854 q_855 q_80 q_856) rfl rfl rfl pdJ6_bitCount_0f7a4 ⟨Nat.le_of_ble_eq_true rfl, Nat.le_of_ble_eq_true rfl⟩) hK va_nil hG hS rfl hl.1 rfl (Nat.le_of_ble_eq_true rfl) dX6_fewest_58 ⟨Nat.le_of_ble_eq_true rfl, Nat.le_of_ble_eq_true rfl⟩ (fun r_33 hq_34 => ?_)
            refine lv_iload hx hb dX6_fewest_61 (lv_at hl 1 rfl) ?_
            refine lv_icmp_ge (tgt := 92) hx hb dX6_fewest_63 (by decide) (fun (c_35 : z44_5 ≤ r_33) => ?_) (fun (c_35 : ¬ (z44_5 ≤ r_33)) => ?_)
            · refine lv_iinc (v := z44_6 + 1) (lv' := [(6, .int (z44_6 + 1)), (5, .int z44_5), (4, .int z44_4), (0, .ref (a 0)), (1, .int x1), (2, .int x2), (3, .int x3)]) hx hb dX6_fewest_92 hl (k := 0) rfl (by rfl) (by decide) rfl (fun ls hl => ?_)
              refine lv_goto (tgt := 44) hx hb dX6_fewest_95 (by decide) ?_
              exact ih_44 _ (hd_44 ▸ mu_up 32 (rn_ltu (u' := 31) (Int32.not_le.mp c_26) hz44_6 hq_25 (by decide)) (by decide)) K44 (z44_6 + 1) z44_5 z44_4 _ _ ls rfl (rg_w (rg_add (lo := 1) (hi := 32) (rn_ltu (u' := 31) (Int32.not_le.mp c_26) hz44_6 hq_25 (by decide)) (rg_c (v := 1) (lo := 1) (hi := 1) (by decide)) (by decide)) (by decide)) hT hF hLF_44 hP hD hS (lv_sub hl [0, 1, 2, 3, 4, 5, 6] rfl)
            · refine lv_aload_n hx hb dX6_fewest_66 rfl (lv_at hl 3 rfl) ?_
              refine va_get (D := D) (ci := 6) (v := .ref (a 3)) (C := RX6) (T := TX6) (N := 9) hx hb htg ig_6 hown hK hP 0 (oh_wg (by decide) (sX_0 hT)) rfl 3 (by decide) (htg _ q_261) (fun _ h9 => h9) rfl dX6_fewest_67 ?_
              refine lv_iload_n hx hb dX6_fewest_70 rfl (lv_at hl 4 rfl) ?_
              refine lv_iload hx hb dX6_fewest_71 (lv_at hl 0 rfl) ?_
              refine lv_iload_n hx hb dX6_fewest_73 rfl (lv_at hl 5 rfl) ?_
              refine lv_iload_n hx hb dX6_fewest_74 rfl (lv_at hl 6 rfl) ?_
              refine tm_V (As := [.int x1, .int z44_6, .int x2, .int x3]) (rest := []) ⟨hx, hb, hml, hown, htg⟩ (c_X5_hasWay l D E G _ a K44 hT x1 z44_6 x2 x3 (rg_w u_9 (by decide)) (rg_w u_18 (by decide)) (rg_w u_22 (by decide))) (cwV 4 htg (oh_gV q_881 q_882 q_883 q_68 q_884) rfl rfl rfl pdVX5_hasWay ⟨Nat.le_of_ble_eq_true rfl, Nat.le_of_ble_eq_true rfl⟩) hK hP hD hG hS hA (va_recv hK hP (ci := 5) (q0 := 3) rfl (oh_wg (by decide) (sX_3 hT))) rfl hl.1 rfl (Nat.le_of_ble_eq_true rfl) dX6_fewest_75 ⟨Nat.le_of_ble_eq_true rfl, Nat.le_of_ble_eq_true rfl⟩ (fun r_36 C_37 H locs hq_38 hP hD hS => ?_)
              obtain ⟨hT, f_39, hq_38⟩ := hq_38
              have hF := fr_tr hF f_39 (by decide) (by decide)
              refine W.widen (k := 0) (n := 0) (Nat.le_refl _) (Nat.le_refl _) ?_
              have t_40 := hT
              refine lv_if_eq (tgt := 92) hx hb dX6_fewest_78 (by decide) (fun (c_41 : r_36 = 0) => ?_) (fun (c_41 : ¬ (r_36 = 0)) => ?_)
              · refine lv_iinc (v := z44_6 + 1) (lv' := [(6, .int (z44_6 + 1)), (5, .int z44_5), (4, .int z44_4), (0, .ref (a 0)), (1, .int x1), (2, .int x2), (3, .int x3)]) hx hb dX6_fewest_92 hl (k := 0) rfl (by rfl) (by decide) rfl (fun ls hl => ?_)
                refine lv_goto (tgt := 44) hx hb dX6_fewest_95 (by decide) ?_
                exact ih_44 _ (hd_44 ▸ mu_up 32 (rn_ltu (u' := 31) (Int32.not_le.mp c_26) hz44_6 hq_25 (by decide)) (by decide)) C_37 (z44_6 + 1) z44_5 z44_4 _ _ ls rfl (rg_w (rg_add (lo := 1) (hi := 32) (rn_ltu (u' := 31) (Int32.not_le.mp c_26) hz44_6 hq_25 (by decide)) (rg_c (v := 1) (lo := 1) (hi := 1) (by decide)) (by decide)) (by decide)) hT hF (fr_tr hLF_44 f_39 (by decide) (by decide)) hP hD hS (lv_sub hl [0, 1, 2, 3, 4, 5, 6] rfl)
              · refine lv_iload hx hb dX6_fewest_81 (lv_at hl 0 rfl) ?_
                refine lv_istore (lv' := [(4, .int z44_6), (6, .int z44_6), (5, .int z44_5), (0, .ref (a 0)), (1, .int x1), (2, .int x2), (3, .int x3)]) hx hb dX6_fewest_83 hl (by decide) rfl (fun ls hl => ?_)
                refine lv_iload hx hb dX6_fewest_85 (lv_at hl 1 rfl) ?_
                refine tq_S (As := [.int z44_6]) (rest := []) (ws := []) ⟨hx, hb, hml, hown, htg⟩ (c_J6_bitCount_0f7a4 l D E G z44_6) (va_cwS 1 htg (oh_gS q_854 q_855 q_80 q_856) rfl rfl rfl pdJ6_bitCount_0f7a4 ⟨Nat.le_of_ble_eq_true rfl, Nat.le_of_ble_eq_true rfl⟩) hK va_nil hG hS rfl hl.1 rfl (Nat.le_of_ble_eq_true rfl) dX6_fewest_87 ⟨Nat.le_of_ble_eq_true rfl, Nat.le_of_ble_eq_true rfl⟩ (fun r_42 hq_43 => ?_)
                refine lv_istore (lv' := [(5, .int r_42), (4, .int z44_6), (6, .int z44_6), (0, .ref (a 0)), (1, .int x1), (2, .int x2), (3, .int x3)]) hx hb dX6_fewest_90 hl (by decide) rfl (fun ls hl => ?_)
                refine lv_iinc (v := z44_6 + 1) (lv' := [(6, .int (z44_6 + 1)), (5, .int r_42), (4, .int z44_6), (0, .ref (a 0)), (1, .int x1), (2, .int x2), (3, .int x3)]) hx hb dX6_fewest_92 hl (k := 2) rfl (by rfl) (by decide) rfl (fun ls hl => ?_)
                refine lv_goto (tgt := 44) hx hb dX6_fewest_95 (by decide) ?_
                exact ih_44 _ (hd_44 ▸ mu_up 32 (rn_ltu (u' := 31) (Int32.not_le.mp c_26) hz44_6 hq_25 (by decide)) (by decide)) C_37 (z44_6 + 1) r_42 z44_6 _ _ ls rfl (rg_w (rg_add (lo := 1) (hi := 32) (rn_ltu (u' := 31) (Int32.not_le.mp c_26) hz44_6 hq_25 (by decide)) (rg_c (v := 1) (lo := 1) (hi := 1) (by decide)) (by decide)) (by decide)) hT hF (fr_tr hLF_44 f_39 (by decide) (by decide)) hP hD hS (lv_sub hl [0, 1, 2, 3, 4, 5, 6] rfl)
        exact L_44 _ C 0 6 (-1) _ _ ls rfl (rg_w (rg_c (v := 0) (lo := 0) (hi := 0) (by decide)) (by decide)) hT hF fr_rf hP hD hS (lv_sub hl [0, 1, 2, 3, 4, 5, 6] rfl)
      · refine lv_aload_n hx hb dX6_fewest_22 rfl (lv_at hl 0 rfl) ?_
        refine lv_bipush (v := (-2)) hx hb dX6_fewest_23 (by decide) ?_
        refine tm_V (As := [.int (-2)]) (rest := []) ⟨hx, hb, hml, hown, htg⟩ (c_X6_refuse l D E G _ a C hT ((-2) : Int32)) (cwV 1 htg (oh_gV q_296 q_298 q_0 q_66 q_299) rfl rfl rfl pdVX6_refuse ⟨Nat.le_of_ble_eq_true rfl, Nat.le_of_ble_eq_true rfl⟩) hK hP hD hG hS hA (va_recv hK hP (ci := 6) (q0 := 0) rfl (oh_wg (by decide) (sX_0 hT))) rfl hl.1 rfl (Nat.le_of_ble_eq_true rfl) dX6_fewest_25 ⟨Nat.le_of_ble_eq_true rfl, Nat.le_of_ble_eq_true rfl⟩ (fun r_44 C_45 H locs hq_46 hP hD hS => ?_)
        obtain ⟨hT, f_47, hq_46⟩ := hq_46
        have hF := fr_tr hF f_47 (by decide) (by decide)
        refine W.widen (k := 0) (n := 0) (Nat.le_refl _) (Nat.le_refl _) ?_
        have t_48 := hT
        rw [hQ]
        exact W.iret (v := r_44) hx hb hr (fun t ht hW => ⟨⟨r_44, C_45, rfl, ⟨hT, hF, trivial⟩, ⟨by rw [ht]; exact hP, hD⟩⟩, hS.F ht⟩) hS.2.2 dX6_fewest_28

theorem mu_half {x : Int32} {l u : Int} (h : rg x l u) (hd : decide (1 ≤ l ∧ u ≤ 512) = true) : ((x / 2).toInt).toNat < x.toInt.toNat := by
  have h2 := of_decide_eq_true hd
  obtain ⟨a1, a2⟩ := h
  have e : (x / 2).toInt = x.toInt.tdiv 2 := by
    rw [Int32.toInt_div]
    exact oh_bmod (by show _ ≤ x.toInt.tdiv 2; rw [Int.tdiv_eq_ediv_of_nonneg (by omega)]; omega) (by show x.toInt.tdiv 2 ≤ _; rw [Int.tdiv_eq_ediv_of_nonneg (by omega)]; omega)
  rw [e, Int.tdiv_eq_ediv_of_nonneg (by omega)]
  omega
theorem rg_half {x : Int32} {l u : Int} (h : rg x l u) (hd : decide (0 ≤ l ∧ u ≤ 512) = true) : rg (x / 2) 0 512 := by
  have h2 := of_decide_eq_true hd
  obtain ⟨a1, a2⟩ := h
  have e : (x / 2).toInt = x.toInt.tdiv 2 := by
    rw [Int32.toInt_div]
    exact oh_bmod (by show _ ≤ x.toInt.tdiv 2; rw [Int.tdiv_eq_ediv_of_nonneg (by omega)]; omega) (by show x.toInt.tdiv 2 ≤ _; rw [Int.tdiv_eq_ediv_of_nonneg (by omega)]; omega)
  unfold rg
  rw [e, Int.tdiv_eq_ediv_of_nonneg (by omega)]
  omega

set_option maxHeartbeats 4000000 in
set_option maxRecDepth 100000 in
theorem c_X6_heaviest (l : Launch) (D : va_G) (E : Nat → ClassId) (G : Nat → Nat) (sz : Nat) (a : Nat → Nat) (C : Nat → va_E) (hT : TyX a E C) (x1 : Int32) (x2 : Int32) (x3 : Int32) (hx1 : rg x1 0 4) (hx2 : rg x2 0 15) (hx3 : rg x3 0 15) : Met l yX6_heaviest (oh_w yX6_heaviest cX6_heaviest 6 (some .int)) ({ frames := 5, cells := 0, slots := 0, locals := 124 }) (oh_Pm D E G [.ref (a 0), .int x1, .int x2, .int x3] (oh_W 35 a C) sz) (va_Qi (fun r (u : Nat → va_E) => TyX a E u ∧ fr [(9, 10), (15, 16), (24, 28)] [] C u ∧ True) (oh_B D (va_A (oh_W 35 a C) sz) (fun u => oh_W 35 a u)) (va_A (oh_W 35 a C) sz)) 0 0 (va_A (oh_W 35 a C) sz) := by
  refine Met.ofW (cc := cX6_heaviest) (maxL := 6) (ret := (some .int)) (by decide) rfl ?_
  intro p e s m args below meth c s₁ B hml hv
  obtain ⟨rfl, hsz, hP, hK, hD0, hG⟩ := hv
  have hx := B.exec
  have hb := B.bytes
  have hr := B.returns
  have hts := atoms_spec (ws := (oh_w yX6_heaviest cX6_heaviest 6 (some .int))) B.pre
  have htg : ∀ w ∈ oh_t, w.before _ s = true := fun w h => hts w (List.mem_cons_of_mem _ h)
  have hown : s.vm.findClass RX6 = some m.cls := findClass_of_methodNamed B.named
  have hlocks := B.notSynchronized
  have hT0 := hT
  subst hsz
  have hD := hD0.self (sz := s.heap.size)
  generalize hAe : va_A (oh_W 35 a C) s.heap.size = A at hD hG ⊢
  have hA : ∀ q : Nat, s.heap.size ≤ q → A q := fun q h => by rw [← hAe]; exact Or.inr h
  have hS : va_S A s.heap s.heap [] := va_S.rf
  have hF : fr [(9, 10), (15, 16), (24, 28)] [] C C := fr_rf
  have hl := lv_entry ([.ref (a 0), .int x1, .int x2, .int x3]) (n := 6) (Nat.le_of_ble_eq_true rfl)
  rw [lg_entry_eq]
  generalize (lg_sl ([.ref (a 0), .int x1, .int x2, .int x3]) ++ List.replicate (6 - (lg_sl ([.ref (a 0), .int x1, .int x2, .int x3])).length) Slot.unset).toArray = ls at hl ⊢
  have hl : lv_has ls 6 [(0, .ref (a 0)), (1, .int x1), (2, .int x2), (3, .int x3)] := hl
  refine oh_genQ (fun Q hQ => ?_)
  refine lv_aload_n hx hb dX6_heaviest_0 rfl (lv_at hl 0 rfl) ?_
  refine va_get (D := D) (ci := 6) (v := .ref (a 1)) (C := RX6) (T := TX6) (N := 9) hx hb htg ig_6 hown hK hP 0 (oh_wg (by decide) (sX_0 hT)) rfl 0 (by decide) (htg _ q_258) (fun _ h9 => h9) rfl dX6_heaviest_1 ?_
  refine va_get (D := D) (ci := 0) (v := .ref (a 15)) (C := RX0) (T := TX0) (N := 8) hx hb htg ig_0 hown hK hP 1 (oh_wg (by decide) (sX_1 hT)) rfl 5 (by decide) (htg _ q_110) (fun _ h9 => h9) rfl dX6_heaviest_4 ?_
  refine lv_iconst (v := 0) hx hb dX6_heaviest_7 (by decide) ?_
  refine lv_iconst (v := 0) hx hb dX6_heaviest_8 (by decide) ?_
  refine th_iast (T := TyX a E) (Rl := fr [(9, 10), (15, 16), (24, 28)] [] C) hx hb hK hP hD hS 15 (by decide) (sX_15 hT) (rg_in (rg_c (v := 0) (lo := 0) (hi := 0) (by decide)) (by decide)) (hT.up 15 (tA_upd (tX_15 hT) tA_any)) (fr_st hF (by decide) (by decide)) dX6_heaviest_9 (fun C_1 H locs e_2 hT hF hP hD hS => ?_)
  have t_3 := hT
  refine lv_aload_n hx hb dX6_heaviest_10 rfl (lv_at hl 0 rfl) ?_
  refine va_get (D := D) (ci := 6) (v := .ref (a 3)) (C := RX6) (T := TX6) (N := 9) hx hb htg ig_6 hown hK hP 0 (oh_wg (by decide) (sX_0 hT)) rfl 3 (by decide) (htg _ q_261) (fun _ h9 => h9) rfl dX6_heaviest_11 ?_
  refine lv_iload_n hx hb dX6_heaviest_14 rfl (lv_at hl 1 rfl) ?_
  refine lv_iconst (v := 0) hx hb dX6_heaviest_15 (by decide) ?_
  refine lv_iload_n hx hb dX6_heaviest_16 rfl (lv_at hl 2 rfl) ?_
  refine lv_iload_n hx hb dX6_heaviest_17 rfl (lv_at hl 3 rfl) ?_
  refine tm_V (As := [.int x1, .int 0, .int x2, .int x3]) (rest := []) ⟨hx, hb, hml, hown, htg⟩ (c_X5_hasWay l D E G _ a C_1 hT x1 (0 : Int32) x2 x3 (rg_w hx1 (by decide)) (rg_w hx2 (by decide)) (rg_w hx3 (by decide))) (cwV 4 htg (oh_gV q_881 q_882 q_883 q_68 q_884) rfl rfl rfl pdVX5_hasWay ⟨Nat.le_of_ble_eq_true rfl, Nat.le_of_ble_eq_true rfl⟩) hK hP hD hG hS hA (va_recv hK hP (ci := 5) (q0 := 3) rfl (oh_wg (by decide) (sX_3 hT))) rfl hl.1 rfl (Nat.le_of_ble_eq_true rfl) dX6_heaviest_18 ⟨Nat.le_of_ble_eq_true rfl, Nat.le_of_ble_eq_true rfl⟩ (fun r_4 C_5 H locs hq_6 hP hD hS => ?_)
  obtain ⟨hT, f_7, hq_6⟩ := hq_6
  have hF := fr_tr hF f_7 (by decide) (by decide)
  refine W.widen (k := 0) (n := 0) (Nat.le_refl _) (Nat.le_refl _) ?_
  have t_8 := hT
  refine lv_if_ne (tgt := 26) hx hb dX6_heaviest_21 (by decide) (fun (c_9 : ¬ (r_4 = 0)) => ?_) (fun (c_9 : r_4 = 0) => ?_)
  · refine lv_iconst (v := 0) hx hb dX6_heaviest_26 (by decide) ?_
    refine lv_istore (lv' := [(4, .int 0), (0, .ref (a 0)), (1, .int x1), (2, .int x2), (3, .int x3)]) hx hb dX6_heaviest_27 hl (by decide) rfl (fun ls hl => ?_)
    refine lv_sipush (v := 512) hx hb dX6_heaviest_29 (by decide) ?_
    refine lv_istore (lv' := [(5, .int 512), (4, .int 0), (0, .ref (a 0)), (1, .int x1), (2, .int x2), (3, .int x3)]) hx hb dX6_heaviest_32 hl (by decide) rfl (fun ls hl => ?_)
    have L_34 : ∀ (d : Nat) (K34 : Nat → va_E) (z34_5 : Int32) (z34_4 : Int32) (H : Heap) (locs : List Loc) (ls : Array Slot), z34_5.toInt.toNat = d → rg z34_5 0 512 → TyX a E K34 → fr [(9, 10), (15, 16), (24, 28)] [] C K34 → fr [(9, 10), (15, 16), (24, 28)] [] C_5 K34 → va_P D vwCl (oh_W 35 a K34) H → va_D A (oh_W 35 a K34) → va_S A s.heap H locs → lv_has ls 6 [(5, .int z34_5), (4, .int z34_4), (0, .ref (a 0)), (1, .int x1), (2, .int x2), (3, .int x3)] → W p l e ({ frames := 5, cells := 0, slots := 0, locals := 124 }) s m (([.ref (a 0), .int x1, .int x2, .int x3] : List Value).toArray) below meth c H locs 0 0 Q (F0 m 34 ls []) := by
      intro d
      induction d using Nat.strongRecOn with
      | ind d ih_34 =>
      intro K34 z34_5 z34_4 H locs ls hd_34 hz34_5 hT hF hLF_34 hP hD hS hl
      have t_10 := hT
      refine lv_iload hx hb dX6_heaviest_34 (lv_at hl 0 rfl) ?_
      refine lv_if_le (tgt := 94) hx hb dX6_heaviest_36 (by decide) (fun (c_11 : z34_5 ≤ 0) => ?_) (fun (c_11 : ¬ (z34_5 ≤ 0)) => ?_)
      · refine lv_iload hx hb dX6_heaviest_94 (lv_at hl 1 rfl) ?_
        rw [hQ]
        exact W.iret (v := z34_4) hx hb hr (fun t ht hW => ⟨⟨z34_4, K34, rfl, ⟨hT, hF, trivial⟩, ⟨by rw [ht]; exact hP, hD⟩⟩, hS.F ht⟩) hS.2.2 dX6_heaviest_96
      · refine lv_aload_n hx hb dX6_heaviest_39 rfl (lv_at hl 2 rfl) ?_
        refine va_get (D := D) (ci := 6) (v := .ref (a 1)) (C := RX6) (T := TX6) (N := 9) hx hb htg ig_6 hown hK hP 0 (oh_wg (by decide) (sX_0 hT)) rfl 0 (by decide) (htg _ q_258) (fun _ h9 => h9) rfl dX6_heaviest_40 ?_
        refine va_get (D := D) (ci := 0) (v := .ref (a 15)) (C := RX0) (T := TX0) (N := 8) hx hb htg ig_0 hown hK hP 1 (oh_wg (by decide) (sX_1 hT)) rfl 5 (by decide) (htg _ q_110) (fun _ h9 => h9) rfl dX6_heaviest_43 ?_
        refine lv_iconst (v := 0) hx hb dX6_heaviest_46 (by decide) ?_
        refine lv_iload hx hb dX6_heaviest_47 (lv_at hl 1 rfl) ?_
        refine lv_iload hx hb dX6_heaviest_49 (lv_at hl 0 rfl) ?_
        refine lv_iadd hx hb dX6_heaviest_51 ?_
        refine th_iast (T := TyX a E) (Rl := fr [(9, 10), (15, 16), (24, 28)] [] C) hx hb hK hP hD hS 15 (by decide) (sX_15 hT) (rg_in (rg_c (v := 0) (lo := 0) (hi := 0) (by decide)) (by decide)) (hT.up 15 (tA_upd (tX_15 hT) tA_any)) (fr_st hF (by decide) (by decide)) dX6_heaviest_52 (fun C_12 H locs e_13 hT hF hP hD hS => ?_)
        have t_14 := hT
        refine lv_iload hx hb dX6_heaviest_53 (lv_at hl 1 rfl) ?_
        refine lv_iload hx hb dX6_heaviest_55 (lv_at hl 0 rfl) ?_
        refine lv_iadd hx hb dX6_heaviest_57 ?_
        refine lv_sipush (v := 900) hx hb dX6_heaviest_58 (by decide) ?_
        refine lv_icmp_gt (tgt := 85) hx hb dX6_heaviest_61 (by decide) (fun (c_15 : (900 : Int32) < (z34_4 + z34_5)) => ?_) (fun (c_15 : ¬ ((900 : Int32) < (z34_4 + z34_5))) => ?_)
        · refine lv_iload hx hb dX6_heaviest_85 (lv_at hl 0 rfl) ?_
          refine lv_iconst (v := 2) hx hb dX6_heaviest_87 (by decide) ?_
          refine lv_idiv hx hb dX6_heaviest_88 (by decide) ?_
          refine lv_istore (lv' := [(5, .int (z34_5 / 2)), (4, .int z34_4), (0, .ref (a 0)), (1, .int x1), (2, .int x2), (3, .int x3)]) hx hb dX6_heaviest_89 hl (by decide) rfl (fun ls hl => ?_)
          refine lv_goto (tgt := 34) hx hb dX6_heaviest_91 (by decide) ?_
          exact ih_34 _ (hd_34 ▸ mu_half (rn_ltl (l' := 1) (Int32.not_le.mp c_11) (rg_c (v := 0) (lo := 0) (hi := 0) (by decide)) hz34_5 (by decide)) (by decide)) C_12 (z34_5 / 2) z34_4 _ _ ls rfl (rg_half (rn_ltl (l' := 1) (Int32.not_le.mp c_11) (rg_c (v := 0) (lo := 0) (hi := 0) (by decide)) hz34_5 (by decide)) (by decide)) hT hF (fr_ste hLF_34 e_13 (by decide) (by decide)) hP hD hS (lv_sub hl [0, 1, 2, 3, 4, 5] rfl)
        · refine lv_aload_n hx hb dX6_heaviest_64 rfl (lv_at hl 2 rfl) ?_
          refine va_get (D := D) (ci := 6) (v := .ref (a 3)) (C := RX6) (T := TX6) (N := 9) hx hb htg ig_6 hown hK hP 0 (oh_wg (by decide) (sX_0 hT)) rfl 3 (by decide) (htg _ q_261) (fun _ h9 => h9) rfl dX6_heaviest_65 ?_
          refine lv_iload_n hx hb dX6_heaviest_68 rfl (lv_at hl 3 rfl) ?_
          refine lv_iconst (v := 0) hx hb dX6_heaviest_69 (by decide) ?_
          refine lv_iload_n hx hb dX6_heaviest_70 rfl (lv_at hl 4 rfl) ?_
          refine lv_iload_n hx hb dX6_heaviest_71 rfl (lv_at hl 5 rfl) ?_
          refine tm_V (As := [.int x1, .int 0, .int x2, .int x3]) (rest := []) ⟨hx, hb, hml, hown, htg⟩ (c_X5_hasWay l D E G _ a C_12 hT x1 (0 : Int32) x2 x3 (rg_w hx1 (by decide)) (rg_w hx2 (by decide)) (rg_w hx3 (by decide))) (cwV 4 htg (oh_gV q_881 q_882 q_883 q_68 q_884) rfl rfl rfl pdVX5_hasWay ⟨Nat.le_of_ble_eq_true rfl, Nat.le_of_ble_eq_true rfl⟩) hK hP hD hG hS hA (va_recv hK hP (ci := 5) (q0 := 3) rfl (oh_wg (by decide) (sX_3 hT))) rfl hl.1 rfl (Nat.le_of_ble_eq_true rfl) dX6_heaviest_72 ⟨Nat.le_of_ble_eq_true rfl, Nat.le_of_ble_eq_true rfl⟩ (fun r_16 C_17 H locs hq_18 hP hD hS => ?_)
          obtain ⟨hT, f_19, hq_18⟩ := hq_18
          have hF := fr_tr hF f_19 (by decide) (by decide)
          refine W.widen (k := 0) (n := 0) (Nat.le_refl _) (Nat.le_refl _) ?_
          have t_20 := hT
          refine lv_if_eq (tgt := 85) hx hb dX6_heaviest_75 (by decide) (fun (c_21 : r_16 = 0) => ?_) (fun (c_21 : ¬ (r_16 = 0)) => ?_)
          · refine lv_iload hx hb dX6_heaviest_85 (lv_at hl 0 rfl) ?_
            refine lv_iconst (v := 2) hx hb dX6_heaviest_87 (by decide) ?_
            refine lv_idiv hx hb dX6_heaviest_88 (by decide) ?_
            refine lv_istore (lv' := [(5, .int (z34_5 / 2)), (4, .int z34_4), (0, .ref (a 0)), (1, .int x1), (2, .int x2), (3, .int x3)]) hx hb dX6_heaviest_89 hl (by decide) rfl (fun ls hl => ?_)
            refine lv_goto (tgt := 34) hx hb dX6_heaviest_91 (by decide) ?_
            exact ih_34 _ (hd_34 ▸ mu_half (rn_ltl (l' := 1) (Int32.not_le.mp c_11) (rg_c (v := 0) (lo := 0) (hi := 0) (by decide)) hz34_5 (by decide)) (by decide)) C_17 (z34_5 / 2) z34_4 _ _ ls rfl (rg_half (rn_ltl (l' := 1) (Int32.not_le.mp c_11) (rg_c (v := 0) (lo := 0) (hi := 0) (by decide)) hz34_5 (by decide)) (by decide)) hT hF (fr_tr (fr_ste hLF_34 e_13 (by decide) (by decide)) f_19 (by decide) (by decide)) hP hD hS (lv_sub hl [0, 1, 2, 3, 4, 5] rfl)
          · refine lv_iload hx hb dX6_heaviest_78 (lv_at hl 1 rfl) ?_
            refine lv_iload hx hb dX6_heaviest_80 (lv_at hl 0 rfl) ?_
            refine lv_iadd hx hb dX6_heaviest_82 ?_
            refine lv_istore (lv' := [(4, .int (z34_4 + z34_5)), (5, .int z34_5), (0, .ref (a 0)), (1, .int x1), (2, .int x2), (3, .int x3)]) hx hb dX6_heaviest_83 hl (by decide) rfl (fun ls hl => ?_)
            refine lv_iload hx hb dX6_heaviest_85 (lv_at hl 1 rfl) ?_
            refine lv_iconst (v := 2) hx hb dX6_heaviest_87 (by decide) ?_
            refine lv_idiv hx hb dX6_heaviest_88 (by decide) ?_
            refine lv_istore (lv' := [(5, .int (z34_5 / 2)), (4, .int (z34_4 + z34_5)), (0, .ref (a 0)), (1, .int x1), (2, .int x2), (3, .int x3)]) hx hb dX6_heaviest_89 hl (by decide) rfl (fun ls hl => ?_)
            refine lv_goto (tgt := 34) hx hb dX6_heaviest_91 (by decide) ?_
            exact ih_34 _ (hd_34 ▸ mu_half (rn_ltl (l' := 1) (Int32.not_le.mp c_11) (rg_c (v := 0) (lo := 0) (hi := 0) (by decide)) hz34_5 (by decide)) (by decide)) C_17 (z34_5 / 2) (z34_4 + z34_5) _ _ ls rfl (rg_half (rn_ltl (l' := 1) (Int32.not_le.mp c_11) (rg_c (v := 0) (lo := 0) (hi := 0) (by decide)) hz34_5 (by decide)) (by decide)) hT hF (fr_tr (fr_ste hLF_34 e_13 (by decide) (by decide)) f_19 (by decide) (by decide)) hP hD hS (lv_sub hl [0, 1, 2, 3, 4, 5] rfl)
    exact L_34 _ C_5 512 0 _ _ ls rfl (rg_w (rg_c (v := 512) (lo := 512) (hi := 512) (by decide)) (by decide)) hT hF fr_rf hP hD hS (lv_sub hl [0, 1, 2, 3, 4, 5] rfl)
  · refine lv_iconst (v := (-1)) hx hb dX6_heaviest_24 (by decide) ?_
    rw [hQ]
    exact W.iret (v := (-1)) hx hb hr (fun t ht hW => ⟨⟨(-1), C_5, rfl, ⟨hT, hF, trivial⟩, ⟨by rw [ht]; exact hP, hD⟩⟩, hS.F ht⟩) hS.2.2 dX6_heaviest_25

set_option maxHeartbeats 4000000 in
set_option maxRecDepth 100000 in
theorem c_X6_most (l : Launch) (D : va_G) (E : Nat → ClassId) (G : Nat → Nat) (sz : Nat) (a : Nat → Nat) (C : Nat → va_E) (hT : TyX a E C) (x1 : Int32) (x2 : Int32) (x3 : Int32) : Met l yX6_most (oh_w yX6_most cX6_most 6 (some .int)) ({ frames := 6, cells := 0, slots := 0, locals := 149 }) (oh_Pm D E G [.ref (a 0), .int x1, .int x2, .int x3] (oh_W 35 a C) sz) (va_Qi (fun r (u : Nat → va_E) => TyX a E u ∧ fr [(7, 8), (9, 10), (15, 16), (24, 28)] [] C u ∧ True) (oh_B D (va_A (oh_W 35 a C) sz) (fun u => oh_W 35 a u)) (va_A (oh_W 35 a C) sz)) 0 0 (va_A (oh_W 35 a C) sz) := by
  refine Met.ofW (cc := cX6_most) (maxL := 6) (ret := (some .int)) (by decide) rfl ?_
  intro p e s m args below meth c s₁ B hml hv
  obtain ⟨rfl, hsz, hP, hK, hD0, hG⟩ := hv
  have hx := B.exec
  have hb := B.bytes
  have hr := B.returns
  have hts := atoms_spec (ws := (oh_w yX6_most cX6_most 6 (some .int))) B.pre
  have htg : ∀ w ∈ oh_t, w.before _ s = true := fun w h => hts w (List.mem_cons_of_mem _ h)
  have hown : s.vm.findClass RX6 = some m.cls := findClass_of_methodNamed B.named
  have hlocks := B.notSynchronized
  have hT0 := hT
  subst hsz
  have hD := hD0.self (sz := s.heap.size)
  generalize hAe : va_A (oh_W 35 a C) s.heap.size = A at hD hG ⊢
  have hA : ∀ q : Nat, s.heap.size ≤ q → A q := fun q h => by rw [← hAe]; exact Or.inr h
  have hS : va_S A s.heap s.heap [] := va_S.rf
  have hF : fr [(7, 8), (9, 10), (15, 16), (24, 28)] [] C C := fr_rf
  have hl := lv_entry ([.ref (a 0), .int x1, .int x2, .int x3]) (n := 6) (Nat.le_of_ble_eq_true rfl)
  rw [lg_entry_eq]
  generalize (lg_sl ([.ref (a 0), .int x1, .int x2, .int x3]) ++ List.replicate (6 - (lg_sl ([.ref (a 0), .int x1, .int x2, .int x3])).length) Slot.unset).toArray = ls at hl ⊢
  have hl : lv_has ls 6 [(0, .ref (a 0)), (1, .int x1), (2, .int x2), (3, .int x3)] := hl
  refine oh_genQ (fun Q hQ => ?_)
  refine lv_aload_n hx hb dX6_most_0 rfl (lv_at hl 0 rfl) ?_
  refine lv_iload_n hx hb dX6_most_1 rfl (lv_at hl 1 rfl) ?_
  refine tq_V (As := [.int x1]) (rest := []) (ws := (oh_W 35 a C)) ⟨hx, hb, hml, hown, htg⟩ (c_X6_isWaggon l D E G a C hT x1) (cwV 1 htg (oh_gV q_679 q_681 q_15 q_66 q_682) rfl rfl rfl pdVX6_isWaggon ⟨Nat.le_of_ble_eq_true rfl, Nat.le_of_ble_eq_true rfl⟩) hK hP hG hS (va_recv hK hP (ci := 6) (q0 := 0) rfl (oh_wg (by decide) (sX_0 hT))) rfl hl.1 rfl (Nat.le_of_ble_eq_true rfl) dX6_most_2 ⟨Nat.le_of_ble_eq_true rfl, Nat.le_of_ble_eq_true rfl⟩ (fun r_1 hq_2 => ?_)
  refine lv_if_eq (tgt := 22) hx hb dX6_most_5 (by decide) (fun (c_3 : r_1 = 0) => ?_) (fun (c_3 : ¬ (r_1 = 0)) => ?_)
  · refine lv_aload_n hx hb dX6_most_22 rfl (lv_at hl 0 rfl) ?_
    refine lv_bipush (v := (-2)) hx hb dX6_most_23 (by decide) ?_
    refine tm_V (As := [.int (-2)]) (rest := []) ⟨hx, hb, hml, hown, htg⟩ (c_X6_refuse l D E G _ a C hT ((-2) : Int32)) (cwV 1 htg (oh_gV q_296 q_298 q_0 q_66 q_299) rfl rfl rfl pdVX6_refuse ⟨Nat.le_of_ble_eq_true rfl, Nat.le_of_ble_eq_true rfl⟩) hK hP hD hG hS hA (va_recv hK hP (ci := 6) (q0 := 0) rfl (oh_wg (by decide) (sX_0 hT))) rfl hl.1 rfl (Nat.le_of_ble_eq_true rfl) dX6_most_25 ⟨Nat.le_of_ble_eq_true rfl, Nat.le_of_ble_eq_true rfl⟩ (fun r_4 C_5 H locs hq_6 hP hD hS => ?_)
    obtain ⟨hT, f_7, hq_6⟩ := hq_6
    have hF := fr_tr hF f_7 (by decide) (by decide)
    refine W.widen (k := 0) (n := 0) (Nat.le_refl _) (Nat.le_refl _) ?_
    have t_8 := hT
    rw [hQ]
    exact W.iret (v := r_4) hx hb hr (fun t ht hW => ⟨⟨r_4, C_5, rfl, ⟨hT, hF, trivial⟩, ⟨by rw [ht]; exact hP, hD⟩⟩, hS.F ht⟩) hS.2.2 dX6_most_28
  · have u_9 := hq_2.2 c_3
    refine lv_iload_n hx hb dX6_most_8 rfl (lv_at hl 2 rfl) ?_
    refine tq_S (As := [.int x2]) (rest := []) (ws := []) ⟨hx, hb, hml, hown, htg⟩ (c_X6_isPlace l D E G x2) (va_cwS 1 htg (oh_gS q_413 q_414 q_66 q_415) rfl rfl rfl pdX6_isPlace ⟨Nat.le_of_ble_eq_true rfl, Nat.le_of_ble_eq_true rfl⟩) hK va_nil hG hS rfl hl.1 rfl (Nat.le_of_ble_eq_true rfl) dX6_most_9 ⟨Nat.le_of_ble_eq_true rfl, Nat.le_of_ble_eq_true rfl⟩ (fun r_10 hq_11 => ?_)
    refine lv_if_eq (tgt := 22) hx hb dX6_most_12 (by decide) (fun (c_12 : r_10 = 0) => ?_) (fun (c_12 : ¬ (r_10 = 0)) => ?_)
    · refine lv_aload_n hx hb dX6_most_22 rfl (lv_at hl 0 rfl) ?_
      refine lv_bipush (v := (-2)) hx hb dX6_most_23 (by decide) ?_
      refine tm_V (As := [.int (-2)]) (rest := []) ⟨hx, hb, hml, hown, htg⟩ (c_X6_refuse l D E G _ a C hT ((-2) : Int32)) (cwV 1 htg (oh_gV q_296 q_298 q_0 q_66 q_299) rfl rfl rfl pdVX6_refuse ⟨Nat.le_of_ble_eq_true rfl, Nat.le_of_ble_eq_true rfl⟩) hK hP hD hG hS hA (va_recv hK hP (ci := 6) (q0 := 0) rfl (oh_wg (by decide) (sX_0 hT))) rfl hl.1 rfl (Nat.le_of_ble_eq_true rfl) dX6_most_25 ⟨Nat.le_of_ble_eq_true rfl, Nat.le_of_ble_eq_true rfl⟩ (fun r_13 C_14 H locs hq_15 hP hD hS => ?_)
      obtain ⟨hT, f_16, hq_15⟩ := hq_15
      have hF := fr_tr hF f_16 (by decide) (by decide)
      refine W.widen (k := 0) (n := 0) (Nat.le_refl _) (Nat.le_refl _) ?_
      have t_17 := hT
      rw [hQ]
      exact W.iret (v := r_13) hx hb hr (fun t ht hW => ⟨⟨r_13, C_14, rfl, ⟨hT, hF, trivial⟩, ⟨by rw [ht]; exact hP, hD⟩⟩, hS.F ht⟩) hS.2.2 dX6_most_28
    · have u_18 := hq_11.2 c_12
      refine lv_iload_n hx hb dX6_most_15 rfl (lv_at hl 3 rfl) ?_
      refine tq_S (As := [.int x3]) (rest := []) (ws := []) ⟨hx, hb, hml, hown, htg⟩ (c_X6_isPlace l D E G x3) (va_cwS 1 htg (oh_gS q_413 q_414 q_66 q_415) rfl rfl rfl pdX6_isPlace ⟨Nat.le_of_ble_eq_true rfl, Nat.le_of_ble_eq_true rfl⟩) hK va_nil hG hS rfl hl.1 rfl (Nat.le_of_ble_eq_true rfl) dX6_most_16 ⟨Nat.le_of_ble_eq_true rfl, Nat.le_of_ble_eq_true rfl⟩ (fun r_19 hq_20 => ?_)
      refine lv_if_ne (tgt := 29) hx hb dX6_most_19 (by decide) (fun (c_21 : ¬ (r_19 = 0)) => ?_) (fun (c_21 : r_19 = 0) => ?_)
      · have u_22 := hq_20.2 c_21
        refine lv_aload_n hx hb dX6_most_29 rfl (lv_at hl 0 rfl) ?_
        refine va_get (D := D) (ci := 6) (v := .ref (a 1)) (C := RX6) (T := TX6) (N := 9) hx hb htg ig_6 hown hK hP 0 (oh_wg (by decide) (sX_0 hT)) rfl 0 (by decide) (htg _ q_258) (fun _ h9 => h9) rfl dX6_most_30 ?_
        refine va_get (D := D) (ci := 0) (v := .ref (a 15)) (C := RX0) (T := TX0) (N := 8) hx hb htg ig_0 hown hK hP 1 (oh_wg (by decide) (sX_1 hT)) rfl 5 (by decide) (htg _ q_110) (fun _ h9 => h9) rfl dX6_most_33 ?_
        refine lv_iconst (v := 0) hx hb dX6_most_36 (by decide) ?_
        refine th_iald hx hb hK hP 15 (by decide) (sX_15 hT) (rg_in (rg_c (v := 0) (lo := 0) (hi := 0) (by decide)) (by decide)) dX6_most_37 ?_
        refine lv_istore (lv' := [(4, .int (ga (C 15) ((0 : Int32)).toNatClampNeg)), (0, .ref (a 0)), (1, .int x1), (2, .int x2), (3, .int x3)]) hx hb dX6_most_38 hl (by decide) rfl (fun ls hl => ?_)
        refine lv_aload_n hx hb dX6_most_40 rfl (lv_at hl 1 rfl) ?_
        refine lv_iload_n hx hb dX6_most_41 rfl (lv_at hl 2 rfl) ?_
        refine lv_iload_n hx hb dX6_most_42 rfl (lv_at hl 3 rfl) ?_
        refine lv_iload_n hx hb dX6_most_43 rfl (lv_at hl 4 rfl) ?_
        refine tm_V (As := [.int x1, .int x2, .int x3]) (rest := []) ⟨hx, hb, hml, hown, htg⟩ (c_X6_heaviest l D E G _ a C hT x1 x2 x3 (rg_w u_9 (by decide)) (rg_w u_18 (by decide)) (rg_w u_22 (by decide))) (cwV 3 htg (oh_gV q_889 q_891 q_27 q_66 q_892) rfl rfl rfl pdVX6_heaviest ⟨Nat.le_of_ble_eq_true rfl, Nat.le_of_ble_eq_true rfl⟩) hK hP hD hG hS hA (va_recv hK hP (ci := 6) (q0 := 0) rfl (oh_wg (by decide) (sX_0 hT))) rfl hl.1 rfl (Nat.le_of_ble_eq_true rfl) dX6_most_44 ⟨Nat.le_of_ble_eq_true rfl, Nat.le_of_ble_eq_true rfl⟩ (fun r_23 C_24 H locs hq_25 hP hD hS => ?_)
        obtain ⟨hT, f_26, hq_25⟩ := hq_25
        have hF := fr_tr hF f_26 (by decide) (by decide)
        refine W.widen (k := 0) (n := 0) (Nat.le_refl _) (Nat.le_refl _) ?_
        have t_27 := hT
        refine lv_istore (lv' := [(5, .int r_23), (4, .int (ga (C 15) ((0 : Int32)).toNatClampNeg)), (0, .ref (a 0)), (1, .int x1), (2, .int x2), (3, .int x3)]) hx hb dX6_most_47 hl (by decide) rfl (fun ls hl => ?_)
        refine lv_aload_n hx hb dX6_most_49 rfl (lv_at hl 2 rfl) ?_
        refine va_get (D := D) (ci := 6) (v := .ref (a 1)) (C := RX6) (T := TX6) (N := 9) hx hb htg ig_6 hown hK hP 0 (oh_wg (by decide) (sX_0 hT)) rfl 0 (by decide) (htg _ q_258) (fun _ h9 => h9) rfl dX6_most_50 ?_
        refine va_get (D := D) (ci := 0) (v := .ref (a 15)) (C := RX0) (T := TX0) (N := 8) hx hb htg ig_0 hown hK hP 1 (oh_wg (by decide) (sX_1 hT)) rfl 5 (by decide) (htg _ q_110) (fun _ h9 => h9) rfl dX6_most_53 ?_
        refine lv_iconst (v := 0) hx hb dX6_most_56 (by decide) ?_
        refine lv_iload hx hb dX6_most_57 (lv_at hl 1 rfl) ?_
        refine th_iast (T := TyX a E) (Rl := fr [(7, 8), (9, 10), (15, 16), (24, 28)] [] C) hx hb hK hP hD hS 15 (by decide) (sX_15 hT) (rg_in (rg_c (v := 0) (lo := 0) (hi := 0) (by decide)) (by decide)) (hT.up 15 (tA_upd (tX_15 hT) tA_any)) (fr_st hF (by decide) (by decide)) dX6_most_59 (fun C_28 H locs e_29 hT hF hP hD hS => ?_)
        have t_30 := hT
        refine lv_iload hx hb dX6_most_60 (lv_at hl 0 rfl) ?_
        refine lv_iconst (v := (-1)) hx hb dX6_most_62 (by decide) ?_
        refine lv_icmp_ne (tgt := 75) hx hb dX6_most_63 (by decide) (fun (c_31 : ¬ (r_23 = (-1))) => ?_) (fun (c_31 : r_23 = (-1)) => ?_)
        · refine lv_iload hx hb dX6_most_75 (lv_at hl 0 rfl) ?_
          rw [hQ]
          exact W.iret (v := r_23) hx hb hr (fun t ht hW => ⟨⟨r_23, C_28, rfl, ⟨hT, hF, trivial⟩, ⟨by rw [ht]; exact hP, hD⟩⟩, hS.F ht⟩) hS.2.2 dX6_most_77
        · refine lv_aload_n hx hb dX6_most_66 rfl (lv_at hl 2 rfl) ?_
          refine lv_bipush (v := (-5)) hx hb dX6_most_67 (by decide) ?_
          refine tm_V (As := [.int (-5)]) (rest := []) ⟨hx, hb, hml, hown, htg⟩ (c_X6_refuse l D E G _ a C_28 hT ((-5) : Int32)) (cwV 1 htg (oh_gV q_296 q_298 q_0 q_66 q_299) rfl rfl rfl pdVX6_refuse ⟨Nat.le_of_ble_eq_true rfl, Nat.le_of_ble_eq_true rfl⟩) hK hP hD hG hS hA (va_recv hK hP (ci := 6) (q0 := 0) rfl (oh_wg (by decide) (sX_0 hT))) rfl hl.1 rfl (Nat.le_of_ble_eq_true rfl) dX6_most_69 ⟨Nat.le_of_ble_eq_true rfl, Nat.le_of_ble_eq_true rfl⟩ (fun r_32 C_33 H locs hq_34 hP hD hS => ?_)
          obtain ⟨hT, f_35, hq_34⟩ := hq_34
          have hF := fr_tr hF f_35 (by decide) (by decide)
          refine W.widen (k := 0) (n := 0) (Nat.le_refl _) (Nat.le_refl _) ?_
          have t_36 := hT
          refine lv_goto (tgt := 77) hx hb dX6_most_72 (by decide) ?_
          rw [hQ]
          exact W.iret (v := r_32) hx hb hr (fun t ht hW => ⟨⟨r_32, C_33, rfl, ⟨hT, hF, trivial⟩, ⟨by rw [ht]; exact hP, hD⟩⟩, hS.F ht⟩) hS.2.2 dX6_most_77
      · refine lv_aload_n hx hb dX6_most_22 rfl (lv_at hl 0 rfl) ?_
        refine lv_bipush (v := (-2)) hx hb dX6_most_23 (by decide) ?_
        refine tm_V (As := [.int (-2)]) (rest := []) ⟨hx, hb, hml, hown, htg⟩ (c_X6_refuse l D E G _ a C hT ((-2) : Int32)) (cwV 1 htg (oh_gV q_296 q_298 q_0 q_66 q_299) rfl rfl rfl pdVX6_refuse ⟨Nat.le_of_ble_eq_true rfl, Nat.le_of_ble_eq_true rfl⟩) hK hP hD hG hS hA (va_recv hK hP (ci := 6) (q0 := 0) rfl (oh_wg (by decide) (sX_0 hT))) rfl hl.1 rfl (Nat.le_of_ble_eq_true rfl) dX6_most_25 ⟨Nat.le_of_ble_eq_true rfl, Nat.le_of_ble_eq_true rfl⟩ (fun r_37 C_38 H locs hq_39 hP hD hS => ?_)
        obtain ⟨hT, f_40, hq_39⟩ := hq_39
        have hF := fr_tr hF f_40 (by decide) (by decide)
        refine W.widen (k := 0) (n := 0) (Nat.le_refl _) (Nat.le_refl _) ?_
        have t_41 := hT
        rw [hQ]
        exact W.iret (v := r_37) hx hb hr (fun t ht hW => ⟨⟨r_37, C_38, rfl, ⟨hT, hF, trivial⟩, ⟨by rw [ht]; exact hP, hD⟩⟩, hS.F ht⟩) hS.2.2 dX6_most_28

set_option maxHeartbeats 4000000 in
set_option maxRecDepth 100000 in
theorem c_X6_valueOfWaiting (l : Launch) (D : va_G) (E : Nat → ClassId) (G : Nat → Nat) (x1 : Int64) (x2 : Int64) (x3 : Int32) (x4 : Int32) (x5 : Int32) (hx3 : rg x3 0 6) : Met l yX6_valueOfWaiting (oh_w yX6_valueOfWaiting cX6_valueOfWaiting 14 (some .long)) ({ frames := 1, cells := 0, slots := 0, locals := 15 }) (oh_Pp D E G [.long x1, .long x2, .int x3, .int x4, .int x5] []) (vp_Sl (fun r => True)) 0 0 (fun _ => False) := by
  refine Met.ofW (cc := cX6_valueOfWaiting) (maxL := 14) (ret := (some .long)) (by decide) rfl ?_
  intro p e s m args below meth c s₁ B hml hv
  obtain ⟨rfl, hP, hK, hG⟩ := hv
  have hx := B.exec
  have hb := B.bytes
  have hr := B.returns
  have hts := atoms_spec (ws := (oh_w yX6_valueOfWaiting cX6_valueOfWaiting 14 (some .long))) B.pre
  have htg : ∀ w ∈ oh_t, w.before _ s = true := fun w h => hts w (List.mem_cons_of_mem _ h)
  have hown : s.vm.findClass RX6 = some m.cls := findClass_of_methodNamed B.named
  have hlocks := B.notSynchronized
  have hS : va_S (fun _ => False) s.heap s.heap [] := va_S.rf
  have hl := lv_entry ([.long x1, .long x2, .int x3, .int x4, .int x5]) (n := 14) (Nat.le_of_ble_eq_true rfl)
  rw [lg_entry_eq]
  generalize (lg_sl ([.long x1, .long x2, .int x3, .int x4, .int x5]) ++ List.replicate (14 - (lg_sl ([.long x1, .long x2, .int x3, .int x4, .int x5])).length) Slot.unset).toArray = ls at hl ⊢
  have hl : lv_has ls 14 [(0, .long x1), (2, .long x2), (4, .int x3), (5, .int x4), (6, .int x5)] := hl
  refine oh_genQ (fun Q hQ => ?_)
  refine lv_lload_n hx hb dX6_valueOfWaiting_0 rfl (lv_at hl 0 rfl) ?_
  refine lv_lstore (lv' := [(7, .long x1), (0, .long x1), (2, .long x2), (4, .int x3), (5, .int x4), (6, .int x5)]) hx hb dX6_valueOfWaiting_1 hl (by decide) rfl (fun ls hl => ?_)
  refine lv_lconst (v := 1) hx hb dX6_valueOfWaiting_3 (by decide) ?_
  refine lv_lstore (lv' := [(9, .long 1), (7, .long x1), (0, .long x1), (2, .long x2), (4, .int x3), (5, .int x4), (6, .int x5)]) hx hb dX6_valueOfWaiting_4 hl (by decide) rfl (fun ls hl => ?_)
  refine lv_iconst (v := 0) hx hb dX6_valueOfWaiting_6 (by decide) ?_
  refine lv_istore (lv' := [(11, .int 0), (9, .long 1), (7, .long x1), (0, .long x1), (2, .long x2), (4, .int x3), (5, .int x4), (6, .int x5)]) hx hb dX6_valueOfWaiting_7 hl (by decide) rfl (fun ls hl => ?_)
  have L_9 : ∀ (d : Nat) (z9_11 : Int32) (z9_9 : Int64) (z9_7 : Int64) (ls : Array Slot), (6 - z9_11.toInt).toNat = d → rg z9_11 0 6 → lv_has ls 14 [(11, .int z9_11), (9, .long z9_9), (7, .long z9_7), (0, .long x1), (2, .long x2), (4, .int x3), (5, .int x4), (6, .int x5)] → W p l e ({ frames := 1, cells := 0, slots := 0, locals := 15 }) s m (([.long x1, .long x2, .int x3, .int x4, .int x5] : List Value).toArray) below meth c s.heap [] 0 0 Q (F0 m 9 ls []) := by
    intro d
    induction d using Nat.strongRecOn with
    | ind d ih_9 =>
    intro z9_11 z9_9 z9_7 ls hd_9 hz9_11 hl
    refine lv_iload hx hb dX6_valueOfWaiting_9 (lv_at hl 0 rfl) ?_
    refine lv_iload hx hb dX6_valueOfWaiting_11 (lv_at hl 5 rfl) ?_
    refine lv_icmp_ge (tgt := 68) hx hb dX6_valueOfWaiting_13 (by decide) (fun (c_1 : x3 ≤ z9_11) => ?_) (fun (c_1 : ¬ (x3 ≤ z9_11)) => ?_)
    · refine lv_lload hx hb dX6_valueOfWaiting_68 (lv_at hl 2 rfl) ?_
      rw [hQ]
      exact W.lret (v := z9_7) hx hb hr (fun t ht hW => ⟨z9_7, rfl, trivial, ht⟩) (fun q h => by cases h) dX6_valueOfWaiting_70
    · refine lv_iload hx hb dX6_valueOfWaiting_16 (lv_at hl 6 rfl) ?_
      refine lv_i2l (v := Int32.toInt64 x4) hx hb dX6_valueOfWaiting_18 (by rfl) ?_
      refine lv_lload_n hx hb dX6_valueOfWaiting_19 rfl (lv_at hl 4 rfl) ?_
      refine lv_lmul hx hb dX6_valueOfWaiting_20 ?_
      refine lv_lload hx hb dX6_valueOfWaiting_21 (lv_at hl 1 rfl) ?_
      refine lv_lmul hx hb dX6_valueOfWaiting_23 ?_
      refine lv_bipush (v := 10) hx hb dX6_valueOfWaiting_24 (by decide) ?_
      refine lv_iload hx hb dX6_valueOfWaiting_26 (lv_at hl 6 rfl) ?_
      refine lv_isub hx hb dX6_valueOfWaiting_28 ?_
      refine lv_i2l (v := Int32.toInt64 (10 - x4)) hx hb dX6_valueOfWaiting_29 (by rfl) ?_
      refine lv_lload hx hb dX6_valueOfWaiting_30 (lv_at hl 2 rfl) ?_
      refine lv_lmul hx hb dX6_valueOfWaiting_32 ?_
      refine lv_ladd hx hb dX6_valueOfWaiting_33 ?_
      refine lv_lstore (lv' := [(12, .long ((((Int32.toInt64 x4) * x2) * z9_9) + ((Int32.toInt64 (10 - x4)) * z9_7))), (11, .int z9_11), (9, .long z9_9), (7, .long z9_7), (0, .long x1), (2, .long x2), (4, .int x3), (5, .int x4), (6, .int x5)]) hx hb dX6_valueOfWaiting_34 hl (by decide) rfl (fun ls hl => ?_)
      refine lv_lload hx hb dX6_valueOfWaiting_36 (lv_at hl 2 rfl) ?_
      refine lv_ldc2 (v := 10) hx hb hown (htg _ q_900) dX6_valueOfWaiting_38 ?_
      refine lv_lmul hx hb dX6_valueOfWaiting_41 ?_
      refine lv_lstore (lv' := [(9, .long (z9_9 * 10)), (12, .long ((((Int32.toInt64 x4) * x2) * z9_9) + ((Int32.toInt64 (10 - x4)) * z9_7))), (11, .int z9_11), (7, .long z9_7), (0, .long x1), (2, .long x2), (4, .int x3), (5, .int x4), (6, .int x5)]) hx hb dX6_valueOfWaiting_42 hl (by decide) rfl (fun ls hl => ?_)
      refine lv_lload_n hx hb dX6_valueOfWaiting_44 rfl (lv_at hl 4 rfl) ?_
      refine lv_lload hx hb dX6_valueOfWaiting_45 (lv_at hl 0 rfl) ?_
      refine lv_lmul hx hb dX6_valueOfWaiting_47 ?_
      refine lv_iload hx hb dX6_valueOfWaiting_48 (lv_at hl 8 rfl) ?_
      refine lv_i2l (v := Int32.toInt64 x5) hx hb dX6_valueOfWaiting_50 (by rfl) ?_
      refine lv_lload hx hb dX6_valueOfWaiting_51 (lv_at hl 0 rfl) ?_
      refine lv_lmul hx hb dX6_valueOfWaiting_53 ?_
      refine lv_lload hx hb dX6_valueOfWaiting_54 (lv_at hl 1 rfl) ?_
      refine lv_ladd hx hb dX6_valueOfWaiting_56 ?_
      refine va_mmin_long hx hb (by rw [hml]; exact hl.1.symm) hown (htg _ q_901) (htg _ q_902) (htg _ q_79) (htg _ q_903) (Nat.le_of_ble_eq_true rfl) (Nat.le_of_ble_eq_true rfl) (Nat.le_of_ble_eq_true rfl) (Nat.le_of_ble_eq_true rfl) dX6_valueOfWaiting_57 ?_
      refine lv_lstore (lv' := [(7, .long (if ((Int32.toInt64 x5) * (z9_9 * 10)) + ((((Int32.toInt64 x4) * x2) * z9_9) + ((Int32.toInt64 (10 - x4)) * z9_7)) < x1 * (z9_9 * 10) then ((Int32.toInt64 x5) * (z9_9 * 10)) + ((((Int32.toInt64 x4) * x2) * z9_9) + ((Int32.toInt64 (10 - x4)) * z9_7)) else x1 * (z9_9 * 10))), (9, .long (z9_9 * 10)), (12, .long ((((Int32.toInt64 x4) * x2) * z9_9) + ((Int32.toInt64 (10 - x4)) * z9_7))), (11, .int z9_11), (0, .long x1), (2, .long x2), (4, .int x3), (5, .int x4), (6, .int x5)]) hx hb dX6_valueOfWaiting_60 hl (by decide) rfl (fun ls hl => ?_)
      refine lv_iinc (v := z9_11 + 1) (lv' := [(11, .int (z9_11 + 1)), (7, .long (if ((Int32.toInt64 x5) * (z9_9 * 10)) + ((((Int32.toInt64 x4) * x2) * z9_9) + ((Int32.toInt64 (10 - x4)) * z9_7)) < x1 * (z9_9 * 10) then ((Int32.toInt64 x5) * (z9_9 * 10)) + ((((Int32.toInt64 x4) * x2) * z9_9) + ((Int32.toInt64 (10 - x4)) * z9_7)) else x1 * (z9_9 * 10))), (9, .long (z9_9 * 10)), (12, .long ((((Int32.toInt64 x4) * x2) * z9_9) + ((Int32.toInt64 (10 - x4)) * z9_7))), (0, .long x1), (2, .long x2), (4, .int x3), (5, .int x4), (6, .int x5)]) hx hb dX6_valueOfWaiting_62 hl (k := 3) rfl (by rfl) (by decide) rfl (fun ls hl => ?_)
      refine lv_goto (tgt := 9) hx hb dX6_valueOfWaiting_65 (by decide) ?_
      exact ih_9 _ (hd_9 ▸ mu_up 6 (rn_ltu (u' := 5) (Int32.not_le.mp c_1) hz9_11 hx3 (by decide)) (by decide)) (z9_11 + 1) (z9_9 * 10) (if ((Int32.toInt64 x5) * (z9_9 * 10)) + ((((Int32.toInt64 x4) * x2) * z9_9) + ((Int32.toInt64 (10 - x4)) * z9_7)) < x1 * (z9_9 * 10) then ((Int32.toInt64 x5) * (z9_9 * 10)) + ((((Int32.toInt64 x4) * x2) * z9_9) + ((Int32.toInt64 (10 - x4)) * z9_7)) else x1 * (z9_9 * 10)) ls rfl (rg_w (rg_add (lo := 1) (hi := 6) (rn_ltu (u' := 5) (Int32.not_le.mp c_1) hz9_11 hx3 (by decide)) (rg_c (v := 1) (lo := 1) (hi := 1) (by decide)) (by decide)) (by decide)) (lv_sub hl [0, 2, 1, 4, 5, 6, 7, 8] rfl)
  exact L_9 _ 0 1 x1 ls rfl (rg_w (rg_c (v := 0) (lo := 0) (hi := 0) (by decide)) (by decide)) (lv_sub hl [0, 1, 2, 3, 4, 5, 6, 7] rfl)

set_option maxHeartbeats 4000000 in
set_option maxRecDepth 100000 in
theorem c_X6_frost (l : Launch) (D : va_G) (E : Nat → ClassId) (G : Nat → Nat) (sz : Nat) (a : Nat → Nat) (C : Nat → va_E) (hT : TyX a E C) (x1 : Int32) (x2 : Int32) (x3 : Int32) (x4 : Int32) (x5 : Int32) (x6 : Int32) (x7 : Int32) : Met l yX6_frost (oh_w yX6_frost cX6_frost 11 (some .long)) ({ frames := 5, cells := 0, slots := 0, locals := 125 }) (oh_Pm D E G [.ref (a 0), .int x1, .int x2, .int x3, .int x4, .int x5, .int x6, .int x7] (oh_W 35 a C) sz) (va_Ql (fun r (u : Nat → va_E) => TyX a E u ∧ fr [(7, 8), (9, 10), (15, 16), (24, 28)] [] C u ∧ True) (oh_B D (va_A (oh_W 35 a C) sz) (fun u => oh_W 35 a u)) (va_A (oh_W 35 a C) sz)) 0 0 (va_A (oh_W 35 a C) sz) := by
  refine Met.ofW (cc := cX6_frost) (maxL := 11) (ret := (some .long)) (by decide) rfl ?_
  intro p e s m args below meth c s₁ B hml hv
  obtain ⟨rfl, hsz, hP, hK, hD0, hG⟩ := hv
  have hx := B.exec
  have hb := B.bytes
  have hr := B.returns
  have hts := atoms_spec (ws := (oh_w yX6_frost cX6_frost 11 (some .long))) B.pre
  have htg : ∀ w ∈ oh_t, w.before _ s = true := fun w h => hts w (List.mem_cons_of_mem _ h)
  have hown : s.vm.findClass RX6 = some m.cls := findClass_of_methodNamed B.named
  have hlocks := B.notSynchronized
  have hT0 := hT
  subst hsz
  have hD := hD0.self (sz := s.heap.size)
  generalize hAe : va_A (oh_W 35 a C) s.heap.size = A at hD hG ⊢
  have hA : ∀ q : Nat, s.heap.size ≤ q → A q := fun q h => by rw [← hAe]; exact Or.inr h
  have hS : va_S A s.heap s.heap [] := va_S.rf
  have hF : fr [(7, 8), (9, 10), (15, 16), (24, 28)] [] C C := fr_rf
  have hl := lv_entry ([.ref (a 0), .int x1, .int x2, .int x3, .int x4, .int x5, .int x6, .int x7]) (n := 11) (Nat.le_of_ble_eq_true rfl)
  rw [lg_entry_eq]
  generalize (lg_sl ([.ref (a 0), .int x1, .int x2, .int x3, .int x4, .int x5, .int x6, .int x7]) ++ List.replicate (11 - (lg_sl ([.ref (a 0), .int x1, .int x2, .int x3, .int x4, .int x5, .int x6, .int x7])).length) Slot.unset).toArray = ls at hl ⊢
  have hl : lv_has ls 11 [(0, .ref (a 0)), (1, .int x1), (2, .int x2), (3, .int x3), (4, .int x4), (5, .int x5), (6, .int x6), (7, .int x7)] := hl
  refine oh_genQ (fun Q hQ => ?_)
  refine lv_aload_n hx hb dX6_frost_0 rfl (lv_at hl 0 rfl) ?_
  refine lv_iload_n hx hb dX6_frost_1 rfl (lv_at hl 1 rfl) ?_
  refine lv_iload_n hx hb dX6_frost_2 rfl (lv_at hl 2 rfl) ?_
  refine lv_iload_n hx hb dX6_frost_3 rfl (lv_at hl 3 rfl) ?_
  refine lv_iload hx hb dX6_frost_4 (lv_at hl 4 rfl) ?_
  refine tq_V (As := [.int x1, .int x2, .int x3, .int x4]) (rest := []) (ws := (oh_W 35 a C)) ⟨hx, hb, hml, hown, htg⟩ (c_X6_isJourney l D E G a C hT x1 x2 x3 x4) (cwV 4 htg (oh_gV q_776 q_778 q_17 q_66 q_779) rfl rfl rfl pdVX6_isJourney ⟨Nat.le_of_ble_eq_true rfl, Nat.le_of_ble_eq_true rfl⟩) hK hP hG hS (va_recv hK hP (ci := 6) (q0 := 0) rfl (oh_wg (by decide) (sX_0 hT))) rfl hl.1 rfl (Nat.le_of_ble_eq_true rfl) dX6_frost_6 ⟨Nat.le_of_ble_eq_true rfl, Nat.le_of_ble_eq_true rfl⟩ (fun r_1 hq_2 => ?_)
  refine lv_if_eq (tgt := 46) hx hb dX6_frost_9 (by decide) (fun (c_3 : r_1 = 0) => ?_) (fun (c_3 : ¬ (r_1 = 0)) => ?_)
  · refine lv_aload_n hx hb dX6_frost_46 rfl (lv_at hl 0 rfl) ?_
    refine lv_bipush (v := (-2)) hx hb dX6_frost_47 (by decide) ?_
    refine tm_V (As := [.int (-2)]) (rest := []) ⟨hx, hb, hml, hown, htg⟩ (c_X6_refuse l D E G _ a C hT ((-2) : Int32)) (cwV 1 htg (oh_gV q_296 q_298 q_0 q_66 q_299) rfl rfl rfl pdVX6_refuse ⟨Nat.le_of_ble_eq_true rfl, Nat.le_of_ble_eq_true rfl⟩) hK hP hD hG hS hA (va_recv hK hP (ci := 6) (q0 := 0) rfl (oh_wg (by decide) (sX_0 hT))) rfl hl.1 rfl (Nat.le_of_ble_eq_true rfl) dX6_frost_49 ⟨Nat.le_of_ble_eq_true rfl, Nat.le_of_ble_eq_true rfl⟩ (fun r_4 C_5 H locs hq_6 hP hD hS => ?_)
    obtain ⟨hT, f_7, hq_6⟩ := hq_6
    have hF := fr_tr hF f_7 (by decide) (by decide)
    refine W.widen (k := 0) (n := 0) (Nat.le_refl _) (Nat.le_refl _) ?_
    have t_8 := hT
    refine lv_i2l (v := Int32.toInt64 r_4) hx hb dX6_frost_52 (by rfl) ?_
    rw [hQ]
    exact W.lret (v := Int32.toInt64 r_4) hx hb hr (fun t ht hW => ⟨⟨Int32.toInt64 r_4, C_5, rfl, ⟨hT, hF, trivial⟩, ⟨by rw [ht]; exact hP, hD⟩⟩, hS.F ht⟩) hS.2.2 dX6_frost_53
  · have u_9 := hq_2.2 c_3
    refine lv_iload hx hb dX6_frost_12 (lv_at hl 5 rfl) ?_
    refine lv_iconst (v := 0) hx hb dX6_frost_14 (by decide) ?_
    refine lv_bipush (v := 6) hx hb dX6_frost_15 (by decide) ?_
    refine tq_S (As := [.int x5, .int 0, .int 6]) (rest := []) (ws := []) ⟨hx, hb, hml, hown, htg⟩ (c_X6_within l D E G x5 (0 : Int32) (6 : Int32)) (va_cwS 3 htg (oh_gS q_293 q_294 q_66 q_295) rfl rfl rfl pdX6_within ⟨Nat.le_of_ble_eq_true rfl, Nat.le_of_ble_eq_true rfl⟩) hK va_nil hG hS rfl hl.1 rfl (Nat.le_of_ble_eq_true rfl) dX6_frost_17 ⟨Nat.le_of_ble_eq_true rfl, Nat.le_of_ble_eq_true rfl⟩ (fun r_10 hq_11 => ?_)
    refine lv_if_eq (tgt := 46) hx hb dX6_frost_20 (by decide) (fun (c_12 : r_10 = 0) => ?_) (fun (c_12 : ¬ (r_10 = 0)) => ?_)
    · have u_13 := hq_11.2.2 c_12
      refine lv_aload_n hx hb dX6_frost_46 rfl (lv_at hl 0 rfl) ?_
      refine lv_bipush (v := (-2)) hx hb dX6_frost_47 (by decide) ?_
      refine tm_V (As := [.int (-2)]) (rest := []) ⟨hx, hb, hml, hown, htg⟩ (c_X6_refuse l D E G _ a C hT ((-2) : Int32)) (cwV 1 htg (oh_gV q_296 q_298 q_0 q_66 q_299) rfl rfl rfl pdVX6_refuse ⟨Nat.le_of_ble_eq_true rfl, Nat.le_of_ble_eq_true rfl⟩) hK hP hD hG hS hA (va_recv hK hP (ci := 6) (q0 := 0) rfl (oh_wg (by decide) (sX_0 hT))) rfl hl.1 rfl (Nat.le_of_ble_eq_true rfl) dX6_frost_49 ⟨Nat.le_of_ble_eq_true rfl, Nat.le_of_ble_eq_true rfl⟩ (fun r_14 C_15 H locs hq_16 hP hD hS => ?_)
      obtain ⟨hT, f_17, hq_16⟩ := hq_16
      have hF := fr_tr hF f_17 (by decide) (by decide)
      refine W.widen (k := 0) (n := 0) (Nat.le_refl _) (Nat.le_refl _) ?_
      have t_18 := hT
      refine lv_i2l (v := Int32.toInt64 r_14) hx hb dX6_frost_52 (by rfl) ?_
      rw [hQ]
      exact W.lret (v := Int32.toInt64 r_14) hx hb hr (fun t ht hW => ⟨⟨Int32.toInt64 r_14, C_15, rfl, ⟨hT, hF, trivial⟩, ⟨by rw [ht]; exact hP, hD⟩⟩, hS.F ht⟩) hS.2.2 dX6_frost_53
    · have u_19 := hq_11.2.1 c_12
      refine lv_iload hx hb dX6_frost_23 (lv_at hl 6 rfl) ?_
      refine lv_iconst (v := 0) hx hb dX6_frost_25 (by decide) ?_
      refine lv_bipush (v := 10) hx hb dX6_frost_26 (by decide) ?_
      refine tq_S (As := [.int x6, .int 0, .int 10]) (rest := []) (ws := []) ⟨hx, hb, hml, hown, htg⟩ (c_X6_within l D E G x6 (0 : Int32) (10 : Int32)) (va_cwS 3 htg (oh_gS q_293 q_294 q_66 q_295) rfl rfl rfl pdX6_within ⟨Nat.le_of_ble_eq_true rfl, Nat.le_of_ble_eq_true rfl⟩) hK va_nil hG hS rfl hl.1 rfl (Nat.le_of_ble_eq_true rfl) dX6_frost_28 ⟨Nat.le_of_ble_eq_true rfl, Nat.le_of_ble_eq_true rfl⟩ (fun r_20 hq_21 => ?_)
      refine lv_if_eq (tgt := 46) hx hb dX6_frost_31 (by decide) (fun (c_22 : r_20 = 0) => ?_) (fun (c_22 : ¬ (r_20 = 0)) => ?_)
      · have u_23 := hq_21.2.2 c_22
        refine lv_aload_n hx hb dX6_frost_46 rfl (lv_at hl 0 rfl) ?_
        refine lv_bipush (v := (-2)) hx hb dX6_frost_47 (by decide) ?_
        refine tm_V (As := [.int (-2)]) (rest := []) ⟨hx, hb, hml, hown, htg⟩ (c_X6_refuse l D E G _ a C hT ((-2) : Int32)) (cwV 1 htg (oh_gV q_296 q_298 q_0 q_66 q_299) rfl rfl rfl pdVX6_refuse ⟨Nat.le_of_ble_eq_true rfl, Nat.le_of_ble_eq_true rfl⟩) hK hP hD hG hS hA (va_recv hK hP (ci := 6) (q0 := 0) rfl (oh_wg (by decide) (sX_0 hT))) rfl hl.1 rfl (Nat.le_of_ble_eq_true rfl) dX6_frost_49 ⟨Nat.le_of_ble_eq_true rfl, Nat.le_of_ble_eq_true rfl⟩ (fun r_24 C_25 H locs hq_26 hP hD hS => ?_)
        obtain ⟨hT, f_27, hq_26⟩ := hq_26
        have hF := fr_tr hF f_27 (by decide) (by decide)
        refine W.widen (k := 0) (n := 0) (Nat.le_refl _) (Nat.le_refl _) ?_
        have t_28 := hT
        refine lv_i2l (v := Int32.toInt64 r_24) hx hb dX6_frost_52 (by rfl) ?_
        rw [hQ]
        exact W.lret (v := Int32.toInt64 r_24) hx hb hr (fun t ht hW => ⟨⟨Int32.toInt64 r_24, C_25, rfl, ⟨hT, hF, trivial⟩, ⟨by rw [ht]; exact hP, hD⟩⟩, hS.F ht⟩) hS.2.2 dX6_frost_53
      · have u_29 := hq_21.2.1 c_22
        refine lv_iload hx hb dX6_frost_34 (lv_at hl 7 rfl) ?_
        refine lv_iconst (v := 0) hx hb dX6_frost_36 (by decide) ?_
        refine lv_sipush (v := 999) hx hb dX6_frost_37 (by decide) ?_
        refine tq_S (As := [.int x7, .int 0, .int 999]) (rest := []) (ws := []) ⟨hx, hb, hml, hown, htg⟩ (c_X6_within l D E G x7 (0 : Int32) (999 : Int32)) (va_cwS 3 htg (oh_gS q_293 q_294 q_66 q_295) rfl rfl rfl pdX6_within ⟨Nat.le_of_ble_eq_true rfl, Nat.le_of_ble_eq_true rfl⟩) hK va_nil hG hS rfl hl.1 rfl (Nat.le_of_ble_eq_true rfl) dX6_frost_40 ⟨Nat.le_of_ble_eq_true rfl, Nat.le_of_ble_eq_true rfl⟩ (fun r_30 hq_31 => ?_)
        refine lv_if_ne (tgt := 54) hx hb dX6_frost_43 (by decide) (fun (c_32 : ¬ (r_30 = 0)) => ?_) (fun (c_32 : r_30 = 0) => ?_)
        · have u_33 := hq_31.2.1 c_32
          refine lv_aload_n hx hb dX6_frost_54 rfl (lv_at hl 0 rfl) ?_
          refine va_get (D := D) (ci := 6) (v := .ref (a 1)) (C := RX6) (T := TX6) (N := 9) hx hb htg ig_6 hown hK hP 0 (oh_wg (by decide) (sX_0 hT)) rfl 0 (by decide) (htg _ q_258) (fun _ h9 => h9) rfl dX6_frost_55 ?_
          refine va_get (D := D) (ci := 0) (v := .ref (a 15)) (C := RX0) (T := TX0) (N := 8) hx hb htg ig_0 hown hK hP 1 (oh_wg (by decide) (sX_1 hT)) rfl 5 (by decide) (htg _ q_110) (fun _ h9 => h9) rfl dX6_frost_58 ?_
          refine lv_iconst (v := 2) hx hb dX6_frost_61 (by decide) ?_
          refine th_iald hx hb hK hP 15 (by decide) (sX_15 hT) (rg_in (rg_c (v := 2) (lo := 2) (hi := 2) (by decide)) (by decide)) dX6_frost_62 ?_
          refine lv_istore (lv' := [(8, .int (ga (C 15) ((2 : Int32)).toNatClampNeg)), (0, .ref (a 0)), (1, .int x1), (2, .int x2), (3, .int x3), (4, .int x4), (5, .int x5), (6, .int x6), (7, .int x7)]) hx hb dX6_frost_63 hl (by decide) rfl (fun ls hl => ?_)
          refine lv_aload_n hx hb dX6_frost_65 rfl (lv_at hl 1 rfl) ?_
          refine va_get (D := D) (ci := 6) (v := .ref (a 1)) (C := RX6) (T := TX6) (N := 9) hx hb htg ig_6 hown hK hP 0 (oh_wg (by decide) (sX_0 hT)) rfl 0 (by decide) (htg _ q_258) (fun _ h9 => h9) rfl dX6_frost_66 ?_
          refine va_get (D := D) (ci := 0) (v := .ref (a 15)) (C := RX0) (T := TX0) (N := 8) hx hb htg ig_0 hown hK hP 1 (oh_wg (by decide) (sX_1 hT)) rfl 5 (by decide) (htg _ q_110) (fun _ h9 => h9) rfl dX6_frost_69 ?_
          refine lv_iconst (v := 2) hx hb dX6_frost_72 (by decide) ?_
          refine lv_iconst (v := 0) hx hb dX6_frost_73 (by decide) ?_
          refine th_iast (T := TyX a E) (Rl := fr [(7, 8), (9, 10), (15, 16), (24, 28)] [] C) hx hb hK hP hD hS 15 (by decide) (sX_15 hT) (rg_in (rg_c (v := 2) (lo := 2) (hi := 2) (by decide)) (by decide)) (hT.up 15 (tA_upd (tX_15 hT) tA_any)) (fr_st hF (by decide) (by decide)) dX6_frost_74 (fun C_34 H locs e_35 hT hF hP hD hS => ?_)
          have t_36 := hT
          refine lv_aload_n hx hb dX6_frost_75 rfl (lv_at hl 1 rfl) ?_
          refine va_get (D := D) (ci := 6) (v := .ref (a 3)) (C := RX6) (T := TX6) (N := 9) hx hb htg ig_6 hown hK hP 0 (oh_wg (by decide) (sX_0 hT)) rfl 3 (by decide) (htg _ q_261) (fun _ h9 => h9) rfl dX6_frost_76 ?_
          refine lv_iload_n hx hb dX6_frost_79 rfl (lv_at hl 2 rfl) ?_
          refine lv_iload_n hx hb dX6_frost_80 rfl (lv_at hl 3 rfl) ?_
          refine lv_iload_n hx hb dX6_frost_81 rfl (lv_at hl 4 rfl) ?_
          refine lv_iload hx hb dX6_frost_82 (lv_at hl 5 rfl) ?_
          refine lv_iconst (v := 1) hx hb dX6_frost_84 (by decide) ?_
          refine tm_V (As := [.int x1, .int x2, .int x3, .int x4, .int 1]) (rest := []) ⟨hx, hb, hml, hown, htg⟩ (c_X5_leastCoin l D E G _ a C_34 hT x1 x2 x3 x4 (1 : Int32) (rg_w u_9.1 (by decide)) (rg_w u_9.2.1 (by decide)) (rg_w u_9.2.2 (by decide))) (cwV 5 htg (oh_gV q_780 q_781 q_782 q_68 q_783) rfl rfl rfl pdVX5_leastCoin ⟨Nat.le_of_ble_eq_true rfl, Nat.le_of_ble_eq_true rfl⟩) hK hP hD hG hS hA (va_recv hK hP (ci := 5) (q0 := 3) rfl (oh_wg (by decide) (sX_3 hT))) rfl hl.1 rfl (Nat.le_of_ble_eq_true rfl) dX6_frost_85 ⟨Nat.le_of_ble_eq_true rfl, Nat.le_of_ble_eq_true rfl⟩ (fun r_37 C_38 H locs hq_39 hP hD hS => ?_)
          obtain ⟨hT, f_40, hq_39⟩ := hq_39
          have hF := fr_tr hF f_40 (by decide) (by decide)
          refine W.widen (k := 0) (n := 0) (Nat.le_refl _) (Nat.le_refl _) ?_
          have t_41 := hT
          refine lv_istore (lv' := [(9, .int r_37), (8, .int (ga (C 15) ((2 : Int32)).toNatClampNeg)), (0, .ref (a 0)), (1, .int x1), (2, .int x2), (3, .int x3), (4, .int x4), (5, .int x5), (6, .int x6), (7, .int x7)]) hx hb dX6_frost_88 hl (by decide) rfl (fun ls hl => ?_)
          refine lv_aload_n hx hb dX6_frost_90 rfl (lv_at hl 2 rfl) ?_
          refine va_get (D := D) (ci := 6) (v := .ref (a 1)) (C := RX6) (T := TX6) (N := 9) hx hb htg ig_6 hown hK hP 0 (oh_wg (by decide) (sX_0 hT)) rfl 0 (by decide) (htg _ q_258) (fun _ h9 => h9) rfl dX6_frost_91 ?_
          refine va_get (D := D) (ci := 0) (v := .ref (a 15)) (C := RX0) (T := TX0) (N := 8) hx hb htg ig_0 hown hK hP 1 (oh_wg (by decide) (sX_1 hT)) rfl 5 (by decide) (htg _ q_110) (fun _ h9 => h9) rfl dX6_frost_94 ?_
          refine lv_iconst (v := 2) hx hb dX6_frost_97 (by decide) ?_
          refine lv_iconst (v := 1) hx hb dX6_frost_98 (by decide) ?_
          refine th_iast (T := TyX a E) (Rl := fr [(7, 8), (9, 10), (15, 16), (24, 28)] [] C) hx hb hK hP hD hS 15 (by decide) (sX_15 hT) (rg_in (rg_c (v := 2) (lo := 2) (hi := 2) (by decide)) (by decide)) (hT.up 15 (tA_upd (tX_15 hT) tA_any)) (fr_st hF (by decide) (by decide)) dX6_frost_99 (fun C_42 H locs e_43 hT hF hP hD hS => ?_)
          have t_44 := hT
          refine lv_aload_n hx hb dX6_frost_100 rfl (lv_at hl 2 rfl) ?_
          refine va_get (D := D) (ci := 6) (v := .ref (a 3)) (C := RX6) (T := TX6) (N := 9) hx hb htg ig_6 hown hK hP 0 (oh_wg (by decide) (sX_0 hT)) rfl 3 (by decide) (htg _ q_261) (fun _ h9 => h9) rfl dX6_frost_101 ?_
          refine lv_iload_n hx hb dX6_frost_104 rfl (lv_at hl 3 rfl) ?_
          refine lv_iload_n hx hb dX6_frost_105 rfl (lv_at hl 4 rfl) ?_
          refine lv_iload_n hx hb dX6_frost_106 rfl (lv_at hl 5 rfl) ?_
          refine lv_iload hx hb dX6_frost_107 (lv_at hl 6 rfl) ?_
          refine lv_iconst (v := 1) hx hb dX6_frost_109 (by decide) ?_
          refine tm_V (As := [.int x1, .int x2, .int x3, .int x4, .int 1]) (rest := []) ⟨hx, hb, hml, hown, htg⟩ (c_X5_leastCoin l D E G _ a C_42 hT x1 x2 x3 x4 (1 : Int32) (rg_w u_9.1 (by decide)) (rg_w u_9.2.1 (by decide)) (rg_w u_9.2.2 (by decide))) (cwV 5 htg (oh_gV q_780 q_781 q_782 q_68 q_783) rfl rfl rfl pdVX5_leastCoin ⟨Nat.le_of_ble_eq_true rfl, Nat.le_of_ble_eq_true rfl⟩) hK hP hD hG hS hA (va_recv hK hP (ci := 5) (q0 := 3) rfl (oh_wg (by decide) (sX_3 hT))) rfl hl.1 rfl (Nat.le_of_ble_eq_true rfl) dX6_frost_110 ⟨Nat.le_of_ble_eq_true rfl, Nat.le_of_ble_eq_true rfl⟩ (fun r_45 C_46 H locs hq_47 hP hD hS => ?_)
          obtain ⟨hT, f_48, hq_47⟩ := hq_47
          have hF := fr_tr hF f_48 (by decide) (by decide)
          refine W.widen (k := 0) (n := 0) (Nat.le_refl _) (Nat.le_refl _) ?_
          have t_49 := hT
          refine lv_istore (lv' := [(10, .int r_45), (9, .int r_37), (8, .int (ga (C 15) ((2 : Int32)).toNatClampNeg)), (0, .ref (a 0)), (1, .int x1), (2, .int x2), (3, .int x3), (4, .int x4), (5, .int x5), (6, .int x6), (7, .int x7)]) hx hb dX6_frost_113 hl (by decide) rfl (fun ls hl => ?_)
          refine lv_aload_n hx hb dX6_frost_115 rfl (lv_at hl 3 rfl) ?_
          refine va_get (D := D) (ci := 6) (v := .ref (a 1)) (C := RX6) (T := TX6) (N := 9) hx hb htg ig_6 hown hK hP 0 (oh_wg (by decide) (sX_0 hT)) rfl 0 (by decide) (htg _ q_258) (fun _ h9 => h9) rfl dX6_frost_116 ?_
          refine va_get (D := D) (ci := 0) (v := .ref (a 15)) (C := RX0) (T := TX0) (N := 8) hx hb htg ig_0 hown hK hP 1 (oh_wg (by decide) (sX_1 hT)) rfl 5 (by decide) (htg _ q_110) (fun _ h9 => h9) rfl dX6_frost_119 ?_
          refine lv_iconst (v := 2) hx hb dX6_frost_122 (by decide) ?_
          refine lv_iload hx hb dX6_frost_123 (lv_at hl 2 rfl) ?_
          refine th_iast (T := TyX a E) (Rl := fr [(7, 8), (9, 10), (15, 16), (24, 28)] [] C) hx hb hK hP hD hS 15 (by decide) (sX_15 hT) (rg_in (rg_c (v := 2) (lo := 2) (hi := 2) (by decide)) (by decide)) (hT.up 15 (tA_upd (tX_15 hT) tA_any)) (fr_st hF (by decide) (by decide)) dX6_frost_125 (fun C_50 H locs e_51 hT hF hP hD hS => ?_)
          have t_52 := hT
          refine lv_iload hx hb dX6_frost_126 (lv_at hl 1 rfl) ?_
          refine lv_ldc (v := 1000000000) hx hb hown (htg _ q_803) dX6_frost_128 ?_
          refine lv_icmp_ne (tgt := 143) hx hb dX6_frost_130 (by decide) (fun (c_53 : ¬ (r_37 = 1000000000)) => ?_) (fun (c_53 : r_37 = 1000000000) => ?_)
          · refine lv_iload hx hb dX6_frost_143 (lv_at hl 1 rfl) ?_
            refine lv_i2l (v := Int32.toInt64 r_37) hx hb dX6_frost_145 (by rfl) ?_
            refine lv_iload hx hb dX6_frost_146 (lv_at hl 0 rfl) ?_
            refine lv_i2l (v := Int32.toInt64 r_45) hx hb dX6_frost_148 (by rfl) ?_
            refine lv_iload hx hb dX6_frost_149 (lv_at hl 8 rfl) ?_
            refine lv_iload hx hb dX6_frost_151 (lv_at hl 9 rfl) ?_
            refine lv_iload hx hb dX6_frost_153 (lv_at hl 10 rfl) ?_
            refine tq_Sl (As := [.long (Int32.toInt64 r_37), .long (Int32.toInt64 r_45), .int x5, .int x6, .int x7]) (rest := []) (ws := []) ⟨hx, hb, hml, hown, htg⟩ (c_X6_valueOfWaiting l D E G (Int32.toInt64 r_37) (Int32.toInt64 r_45) x5 x6 x7 (rg_w (rn_leu u_19.2 (rn_lel u_19.1 (rg_c (v := 0) (lo := 0) (hi := 0) (by decide)) (rg_any _)) (rg_c (v := 6) (lo := 6) (hi := 6) (by decide))) (by decide))) (va_cwS 5 htg (oh_gS q_897 q_898 q_66 q_899) rfl rfl rfl pdX6_valueOfWaiting ⟨Nat.le_of_ble_eq_true rfl, Nat.le_of_ble_eq_true rfl⟩) hK va_nil hG hS rfl hl.1 rfl (Nat.le_of_ble_eq_true rfl) dX6_frost_155 ⟨Nat.le_of_ble_eq_true rfl, Nat.le_of_ble_eq_true rfl⟩ (fun r_54 hq_55 => ?_)
            rw [hQ]
            exact W.lret (v := r_54) hx hb hr (fun t ht hW => ⟨⟨r_54, C_50, rfl, ⟨hT, hF, trivial⟩, ⟨by rw [ht]; exact hP, hD⟩⟩, hS.F ht⟩) hS.2.2 dX6_frost_158
          · refine lv_aload_n hx hb dX6_frost_133 rfl (lv_at hl 3 rfl) ?_
            refine lv_bipush (v := (-5)) hx hb dX6_frost_134 (by decide) ?_
            refine tm_V (As := [.int (-5)]) (rest := []) ⟨hx, hb, hml, hown, htg⟩ (c_X6_refuse l D E G _ a C_50 hT ((-5) : Int32)) (cwV 1 htg (oh_gV q_296 q_298 q_0 q_66 q_299) rfl rfl rfl pdVX6_refuse ⟨Nat.le_of_ble_eq_true rfl, Nat.le_of_ble_eq_true rfl⟩) hK hP hD hG hS hA (va_recv hK hP (ci := 6) (q0 := 0) rfl (oh_wg (by decide) (sX_0 hT))) rfl hl.1 rfl (Nat.le_of_ble_eq_true rfl) dX6_frost_136 ⟨Nat.le_of_ble_eq_true rfl, Nat.le_of_ble_eq_true rfl⟩ (fun r_56 C_57 H locs hq_58 hP hD hS => ?_)
            obtain ⟨hT, f_59, hq_58⟩ := hq_58
            have hF := fr_tr hF f_59 (by decide) (by decide)
            refine W.widen (k := 0) (n := 0) (Nat.le_refl _) (Nat.le_refl _) ?_
            have t_60 := hT
            refine lv_i2l (v := Int32.toInt64 r_56) hx hb dX6_frost_139 (by rfl) ?_
            refine lv_goto (tgt := 158) hx hb dX6_frost_140 (by decide) ?_
            rw [hQ]
            exact W.lret (v := Int32.toInt64 r_56) hx hb hr (fun t ht hW => ⟨⟨Int32.toInt64 r_56, C_57, rfl, ⟨hT, hF, trivial⟩, ⟨by rw [ht]; exact hP, hD⟩⟩, hS.F ht⟩) hS.2.2 dX6_frost_158
        · have u_61 := hq_31.2.2 c_32
          refine lv_aload_n hx hb dX6_frost_46 rfl (lv_at hl 0 rfl) ?_
          refine lv_bipush (v := (-2)) hx hb dX6_frost_47 (by decide) ?_
          refine tm_V (As := [.int (-2)]) (rest := []) ⟨hx, hb, hml, hown, htg⟩ (c_X6_refuse l D E G _ a C hT ((-2) : Int32)) (cwV 1 htg (oh_gV q_296 q_298 q_0 q_66 q_299) rfl rfl rfl pdVX6_refuse ⟨Nat.le_of_ble_eq_true rfl, Nat.le_of_ble_eq_true rfl⟩) hK hP hD hG hS hA (va_recv hK hP (ci := 6) (q0 := 0) rfl (oh_wg (by decide) (sX_0 hT))) rfl hl.1 rfl (Nat.le_of_ble_eq_true rfl) dX6_frost_49 ⟨Nat.le_of_ble_eq_true rfl, Nat.le_of_ble_eq_true rfl⟩ (fun r_62 C_63 H locs hq_64 hP hD hS => ?_)
          obtain ⟨hT, f_65, hq_64⟩ := hq_64
          have hF := fr_tr hF f_65 (by decide) (by decide)
          refine W.widen (k := 0) (n := 0) (Nat.le_refl _) (Nat.le_refl _) ?_
          have t_66 := hT
          refine lv_i2l (v := Int32.toInt64 r_62) hx hb dX6_frost_52 (by rfl) ?_
          rw [hQ]
          exact W.lret (v := Int32.toInt64 r_62) hx hb hr (fun t ht hW => ⟨⟨Int32.toInt64 r_62, C_63, rfl, ⟨hT, hF, trivial⟩, ⟨by rw [ht]; exact hP, hD⟩⟩, hS.F ht⟩) hS.2.2 dX6_frost_53

set_option maxHeartbeats 4000000 in
set_option maxRecDepth 100000 in
theorem c_X6_begin (l : Launch) (D : va_G) (E : Nat → ClassId) (G : Nat → Nat) (sz : Nat) (a : Nat → Nat) (C : Nat → va_E) (hT : TyX a E C) (x1 : Int32) (x2 : Int32) (x3 : Int32) (x4 : Int32) : Met l yX6_begin (oh_w yX6_begin cX6_begin 5 (some .int)) ({ frames := 4, cells := 0, slots := 0, locals := 89 }) (oh_Pm D E G [.ref (a 0), .int x1, .int x2, .int x3, .int x4] (oh_W 35 a C) sz) (va_Qi (fun r (u : Nat → va_E) => TyX a E u ∧ fr [(1, 2), (7, 8), (9, 10), (16, 17)] [] C u ∧ True) (oh_B D (va_A (oh_W 35 a C) sz) (fun u => oh_W 35 a u)) (va_A (oh_W 35 a C) sz)) 0 0 (va_A (oh_W 35 a C) sz) := by
  refine Met.ofW (cc := cX6_begin) (maxL := 5) (ret := (some .int)) (by decide) rfl ?_
  intro p e s m args below meth c s₁ B hml hv
  obtain ⟨rfl, hsz, hP, hK, hD0, hG⟩ := hv
  have hx := B.exec
  have hb := B.bytes
  have hr := B.returns
  have hts := atoms_spec (ws := (oh_w yX6_begin cX6_begin 5 (some .int))) B.pre
  have htg : ∀ w ∈ oh_t, w.before _ s = true := fun w h => hts w (List.mem_cons_of_mem _ h)
  have hown : s.vm.findClass RX6 = some m.cls := findClass_of_methodNamed B.named
  have hlocks := B.notSynchronized
  have hT0 := hT
  subst hsz
  have hD := hD0.self (sz := s.heap.size)
  generalize hAe : va_A (oh_W 35 a C) s.heap.size = A at hD hG ⊢
  have hA : ∀ q : Nat, s.heap.size ≤ q → A q := fun q h => by rw [← hAe]; exact Or.inr h
  have hS : va_S A s.heap s.heap [] := va_S.rf
  have hF : fr [(1, 2), (7, 8), (9, 10), (16, 17)] [] C C := fr_rf
  have hl := lv_entry ([.ref (a 0), .int x1, .int x2, .int x3, .int x4]) (n := 5) (Nat.le_of_ble_eq_true rfl)
  rw [lg_entry_eq]
  generalize (lg_sl ([.ref (a 0), .int x1, .int x2, .int x3, .int x4]) ++ List.replicate (5 - (lg_sl ([.ref (a 0), .int x1, .int x2, .int x3, .int x4])).length) Slot.unset).toArray = ls at hl ⊢
  have hl : lv_has ls 5 [(0, .ref (a 0)), (1, .int x1), (2, .int x2), (3, .int x3), (4, .int x4)] := hl
  refine oh_genQ (fun Q hQ => ?_)
  refine lv_aload_n hx hb dX6_begin_0 rfl (lv_at hl 0 rfl) ?_
  refine lv_iload_n hx hb dX6_begin_1 rfl (lv_at hl 1 rfl) ?_
  refine lv_iload_n hx hb dX6_begin_2 rfl (lv_at hl 2 rfl) ?_
  refine lv_iload_n hx hb dX6_begin_3 rfl (lv_at hl 3 rfl) ?_
  refine lv_iload hx hb dX6_begin_4 (lv_at hl 4 rfl) ?_
  refine tq_V (As := [.int x1, .int x2, .int x3, .int x4]) (rest := []) (ws := (oh_W 35 a C)) ⟨hx, hb, hml, hown, htg⟩ (c_X6_isJourney l D E G a C hT x1 x2 x3 x4) (cwV 4 htg (oh_gV q_776 q_778 q_17 q_66 q_779) rfl rfl rfl pdVX6_isJourney ⟨Nat.le_of_ble_eq_true rfl, Nat.le_of_ble_eq_true rfl⟩) hK hP hG hS (va_recv hK hP (ci := 6) (q0 := 0) rfl (oh_wg (by decide) (sX_0 hT))) rfl hl.1 rfl (Nat.le_of_ble_eq_true rfl) dX6_begin_6 ⟨Nat.le_of_ble_eq_true rfl, Nat.le_of_ble_eq_true rfl⟩ (fun r_1 hq_2 => ?_)
  refine lv_if_ne (tgt := 19) hx hb dX6_begin_9 (by decide) (fun (c_3 : ¬ (r_1 = 0)) => ?_) (fun (c_3 : r_1 = 0) => ?_)
  · have u_4 := hq_2.2 c_3
    refine lv_aload_n hx hb dX6_begin_19 rfl (lv_at hl 0 rfl) ?_
    refine va_get (D := D) (ci := 6) (v := .ref (a 3)) (C := RX6) (T := TX6) (N := 9) hx hb htg ig_6 hown hK hP 0 (oh_wg (by decide) (sX_0 hT)) rfl 3 (by decide) (htg _ q_261) (fun _ h9 => h9) rfl dX6_begin_20 ?_
    refine va_get (D := D) (ci := 5) (v := .ref (a 9)) (C := RX5) (T := TX5) (N := 7) hx hb htg ig_5 hown hK hP 3 (oh_wg (by decide) (sX_3 hT)) rfl 1 (by decide) (htg _ q_169) (fun _ h9 => h9) rfl dX6_begin_23 ?_
    refine lv_aload_n hx hb dX6_begin_26 rfl (lv_at hl 0 rfl) ?_
    refine va_get (D := D) (ci := 6) (v := .ref (a 1)) (C := RX6) (T := TX6) (N := 9) hx hb htg ig_6 hown hK hP 0 (oh_wg (by decide) (sX_0 hT)) rfl 0 (by decide) (htg _ q_258) (fun _ h9 => h9) rfl dX6_begin_27 ?_
    refine lv_iload_n hx hb dX6_begin_30 rfl (lv_at hl 1 rfl) ?_
    refine lv_iload_n hx hb dX6_begin_31 rfl (lv_at hl 2 rfl) ?_
    refine tm_Vv (As := [.ref (a 1), .int x1, .int x2]) (rest := []) ⟨hx, hb, hml, hown, htg⟩ (c_X1_take l D E G _ a C hT x1 x2 (rg_w u_4.1 (by decide))) (cwV 3 htg (oh_gV q_703 q_704 q_705 q_69 q_706) rfl rfl rfl pdVX1_take ⟨Nat.le_of_ble_eq_true rfl, Nat.le_of_ble_eq_true rfl⟩) hK hP hD hG hS hA (va_recv hK hP (ci := 1) (q0 := 9) rfl (oh_wg (by decide) (sX_9 hT))) rfl hl.1 rfl (Nat.le_of_ble_eq_true rfl) dX6_begin_32 ⟨Nat.le_of_ble_eq_true rfl, Nat.le_of_ble_eq_true rfl⟩ (fun C_6 H locs hq_7 hP hD hS => ?_)
    obtain ⟨hT, f_8, hq_7⟩ := hq_7
    have hF := fr_tr hF f_8 (by decide) (by decide)
    refine W.widen (k := 0) (n := 0) (Nat.le_refl _) (Nat.le_refl _) ?_
    have t_9 := hT
    refine lv_aload_n hx hb dX6_begin_35 rfl (lv_at hl 0 rfl) ?_
    refine va_get (D := D) (ci := 6) (v := .ref (a 1)) (C := RX6) (T := TX6) (N := 9) hx hb htg ig_6 hown hK hP 0 (oh_wg (by decide) (sX_0 hT)) rfl 0 (by decide) (htg _ q_258) (fun _ h9 => h9) rfl dX6_begin_36 ?_
    refine lv_iload_n hx hb dX6_begin_39 rfl (lv_at hl 1 rfl) ?_
    refine lv_iload_n hx hb dX6_begin_40 rfl (lv_at hl 2 rfl) ?_
    refine lv_iload_n hx hb dX6_begin_41 rfl (lv_at hl 3 rfl) ?_
    refine lv_iload hx hb dX6_begin_42 (lv_at hl 4 rfl) ?_
    refine lv_aload_n hx hb dX6_begin_44 rfl (lv_at hl 0 rfl) ?_
    refine va_get (D := D) (ci := 6) (v := .ref (a 3)) (C := RX6) (T := TX6) (N := 9) hx hb htg ig_6 hown hK hP 0 (oh_wg (by decide) (sX_0 hT)) rfl 3 (by decide) (htg _ q_261) (fun _ h9 => h9) rfl dX6_begin_45 ?_
    refine va_get (D := D) (ci := 5) (v := .ref (a 9)) (C := RX5) (T := TX5) (N := 7) hx hb htg ig_5 hown hK hP 3 (oh_wg (by decide) (sX_3 hT)) rfl 1 (by decide) (htg _ q_169) (fun _ h9 => h9) rfl dX6_begin_48 ?_
    refine va_get (D := D) (ci := 1) (v := .int (gi (C_6 9) 4)) (C := RX1) (T := TX1) (N := 5) hx hb htg ig_1 hown hK hP 9 (oh_wg (by decide) (sX_9 hT)) rfl 4 (by decide) (htg _ q_154) (fun _ h9 => h9) rfl dX6_begin_51 ?_
    refine tm_Vv (As := [.int x1, .int x2, .int x3, .int x4, .int (gi (C_6 9) 4)]) (rest := []) ⟨hx, hb, hml, hown, htg⟩ (c_X0_startTrip l D E G _ a C_6 hT x1 x2 x3 x4 (gi (C_6 9) 4) (rg_w u_4.1 (by decide)) (rg_w u_4.2.1 (by decide)) (rg_w u_4.2.2 (by decide))) (cwV 5 htg (oh_gV q_908 q_909 q_910 q_67 q_911) rfl rfl rfl pdVX0_startTrip ⟨Nat.le_of_ble_eq_true rfl, Nat.le_of_ble_eq_true rfl⟩) hK hP hD hG hS hA (va_recv hK hP (ci := 0) (q0 := 1) rfl (oh_wg (by decide) (sX_1 hT))) rfl hl.1 rfl (Nat.le_of_ble_eq_true rfl) dX6_begin_54 ⟨Nat.le_of_ble_eq_true rfl, Nat.le_of_ble_eq_true rfl⟩ (fun C_11 H locs hq_12 hP hD hS => ?_)
    obtain ⟨hT, f_13, hq_12⟩ := hq_12
    have hF := fr_tr hF f_13 (by decide) (by decide)
    refine W.widen (k := 0) (n := 0) (Nat.le_refl _) (Nat.le_refl _) ?_
    have t_14 := hT
    refine lv_iconst (v := 1) hx hb dX6_begin_57 (by decide) ?_
    rw [hQ]
    exact W.iret (v := 1) hx hb hr (fun t ht hW => ⟨⟨1, C_11, rfl, ⟨hT, hF, trivial⟩, ⟨by rw [ht]; exact hP, hD⟩⟩, hS.F ht⟩) hS.2.2 dX6_begin_58
  · refine lv_aload_n hx hb dX6_begin_12 rfl (lv_at hl 0 rfl) ?_
    refine lv_bipush (v := (-2)) hx hb dX6_begin_13 (by decide) ?_
    refine tm_V (As := [.int (-2)]) (rest := []) ⟨hx, hb, hml, hown, htg⟩ (c_X6_refuse l D E G _ a C hT ((-2) : Int32)) (cwV 1 htg (oh_gV q_296 q_298 q_0 q_66 q_299) rfl rfl rfl pdVX6_refuse ⟨Nat.le_of_ble_eq_true rfl, Nat.le_of_ble_eq_true rfl⟩) hK hP hD hG hS hA (va_recv hK hP (ci := 6) (q0 := 0) rfl (oh_wg (by decide) (sX_0 hT))) rfl hl.1 rfl (Nat.le_of_ble_eq_true rfl) dX6_begin_15 ⟨Nat.le_of_ble_eq_true rfl, Nat.le_of_ble_eq_true rfl⟩ (fun r_15 C_16 H locs hq_17 hP hD hS => ?_)
    obtain ⟨hT, f_18, hq_17⟩ := hq_17
    have hF := fr_tr hF f_18 (by decide) (by decide)
    refine W.widen (k := 0) (n := 0) (Nat.le_refl _) (Nat.le_refl _) ?_
    have t_19 := hT
    rw [hQ]
    exact W.iret (v := r_15) hx hb hr (fun t ht hW => ⟨⟨r_15, C_16, rfl, ⟨hT, hF, trivial⟩, ⟨by rw [ht]; exact hP, hD⟩⟩, hS.F ht⟩) hS.2.2 dX6_begin_18

set_option maxHeartbeats 4000000 in
set_option maxRecDepth 100000 in
theorem c_X6_goAlong (l : Launch) (D : va_G) (E : Nat → ClassId) (G : Nat → Nat) (sz : Nat) (a : Nat → Nat) (C : Nat → va_E) (hT : TyX a E C) (x1 : Int32) (hx1 : rg x1 0 23) : Met l yX6_goAlong (oh_w yX6_goAlong cX6_goAlong 3 none) ({ frames := 4, cells := 0, slots := 0, locals := 97 }) (oh_Pm D E G [.ref (a 0), .int x1] (oh_W 35 a C) sz) (va_Qv (fun (u : Nat → va_E) => TyX a E u ∧ fr [(12, 13), (16, 17), (28, 29)] [] C u ∧ True) (oh_B D (va_A (oh_W 35 a C) sz) (fun u => oh_W 35 a u)) (va_A (oh_W 35 a C) sz)) 0 0 (va_A (oh_W 35 a C) sz) := by
  refine Met.ofW (cc := cX6_goAlong) (maxL := 3) (ret := none) (by decide) rfl ?_
  intro p e s m args below meth c s₁ B hml hv
  obtain ⟨rfl, hsz, hP, hK, hD0, hG⟩ := hv
  have hx := B.exec
  have hb := B.bytes
  have hr := B.returns
  have hts := atoms_spec (ws := (oh_w yX6_goAlong cX6_goAlong 3 none)) B.pre
  have htg : ∀ w ∈ oh_t, w.before _ s = true := fun w h => hts w (List.mem_cons_of_mem _ h)
  have hown : s.vm.findClass RX6 = some m.cls := findClass_of_methodNamed B.named
  have hlocks := B.notSynchronized
  have hT0 := hT
  subst hsz
  have hD := hD0.self (sz := s.heap.size)
  generalize hAe : va_A (oh_W 35 a C) s.heap.size = A at hD hG ⊢
  have hA : ∀ q : Nat, s.heap.size ≤ q → A q := fun q h => by rw [← hAe]; exact Or.inr h
  have hS : va_S A s.heap s.heap [] := va_S.rf
  have hF : fr [(12, 13), (16, 17), (28, 29)] [] C C := fr_rf
  have hl := lv_entry ([.ref (a 0), .int x1]) (n := 3) (Nat.le_of_ble_eq_true rfl)
  rw [lg_entry_eq]
  generalize (lg_sl ([.ref (a 0), .int x1]) ++ List.replicate (3 - (lg_sl ([.ref (a 0), .int x1])).length) Slot.unset).toArray = ls at hl ⊢
  have hl : lv_has ls 3 [(0, .ref (a 0)), (1, .int x1)] := hl
  refine oh_genQ (fun Q hQ => ?_)
  refine lv_aload_n hx hb dX6_goAlong_0 rfl (lv_at hl 0 rfl) ?_
  refine va_get (D := D) (ci := 6) (v := .ref (a 1)) (C := RX6) (T := TX6) (N := 9) hx hb htg ig_6 hown hK hP 0 (oh_wg (by decide) (sX_0 hT)) rfl 0 (by decide) (htg _ q_258) (fun _ h9 => h9) rfl dX6_goAlong_1 ?_
  refine va_get (D := D) (ci := 0) (v := .ref (a 16)) (C := RX0) (T := TX0) (N := 8) hx hb htg ig_0 hown hK hP 1 (oh_wg (by decide) (sX_1 hT)) rfl 6 (by decide) (htg _ q_112) (fun _ h9 => h9) rfl dX6_goAlong_4 ?_
  refine lv_astore_n (lv' := [(2, .ref (a 16)), (0, .ref (a 0)), (1, .int x1)]) hx hb dX6_goAlong_7 rfl hl (by decide) rfl (fun ls hl => ?_)
  refine lv_aload_n hx hb dX6_goAlong_8 rfl (lv_at hl 1 rfl) ?_
  refine va_get (D := D) (ci := 6) (v := .ref (a 3)) (C := RX6) (T := TX6) (N := 9) hx hb htg ig_6 hown hK hP 0 (oh_wg (by decide) (sX_0 hT)) rfl 3 (by decide) (htg _ q_261) (fun _ h9 => h9) rfl dX6_goAlong_9 ?_
  refine lv_aload_n hx hb dX6_goAlong_12 rfl (lv_at hl 0 rfl) ?_
  refine lv_iconst (v := 0) hx hb dX6_goAlong_13 (by decide) ?_
  refine th_iald hx hb hK hP 16 (by decide) (sX_16 hT) (rg_in (rg_c (v := 0) (lo := 0) (hi := 0) (by decide)) (by decide)) dX6_goAlong_14 ?_
  refine tm_Vv (As := [.int (ga (C 16) ((0 : Int32)).toNatClampNeg)]) (rest := []) ⟨hx, hb, hml, hown, htg⟩ (c_X5_setOut l D E G _ a C hT (ga (C 16) ((0 : Int32)).toNatClampNeg) (rg_w (tA_rdc (lo := 0) (hi := 15) (tX_16 hT0) (rg_in (rg_c (v := 0) (lo := 0) (hi := 0) (by decide)) (by decide)) (show _ = 0 by decide) (by decide)) (by decide))) (cwV 1 htg (oh_gV q_838 q_839 q_840 q_68 q_841) rfl rfl rfl pdVX5_setOut ⟨Nat.le_of_ble_eq_true rfl, Nat.le_of_ble_eq_true rfl⟩) hK hP hD hG hS hA (va_recv hK hP (ci := 5) (q0 := 3) rfl (oh_wg (by decide) (sX_3 hT))) rfl hl.1 rfl (Nat.le_of_ble_eq_true rfl) dX6_goAlong_15 ⟨Nat.le_of_ble_eq_true rfl, Nat.le_of_ble_eq_true rfl⟩ (fun C_2 H locs hq_3 hP hD hS => ?_)
  obtain ⟨hT, f_4, hq_3⟩ := hq_3
  have hF := fr_tr hF f_4 (by decide) (by decide)
  refine W.widen (k := 0) (n := 0) (Nat.le_refl _) (Nat.le_refl _) ?_
  have t_5 := hT
  refine lv_aload_n hx hb dX6_goAlong_18 rfl (lv_at hl 1 rfl) ?_
  refine va_get (D := D) (ci := 6) (v := .ref (a 3)) (C := RX6) (T := TX6) (N := 9) hx hb htg ig_6 hown hK hP 0 (oh_wg (by decide) (sX_0 hT)) rfl 3 (by decide) (htg _ q_261) (fun _ h9 => h9) rfl dX6_goAlong_19 ?_
  refine lv_iload_n hx hb dX6_goAlong_22 rfl (lv_at hl 2 rfl) ?_
  refine lv_i2l (v := Int32.toInt64 x1) hx hb dX6_goAlong_23 (by rfl) ?_
  refine tm_V (As := [.long (Int32.toInt64 x1)]) (rest := []) ⟨hx, hb, hml, hown, htg⟩ (c_X5_walk l D E G _ a C_2 hT (Int32.toInt64 x1)) (cwV 1 htg (oh_gV q_842 q_843 q_844 q_68 q_845) rfl rfl rfl pdVX5_walk ⟨Nat.le_of_ble_eq_true rfl, Nat.le_of_ble_eq_true rfl⟩) hK hP hD hG hS hA (va_recv hK hP (ci := 5) (q0 := 3) rfl (oh_wg (by decide) (sX_3 hT))) rfl hl.1 rfl (Nat.le_of_ble_eq_true rfl) dX6_goAlong_24 ⟨Nat.le_of_ble_eq_true rfl, Nat.le_of_ble_eq_true rfl⟩ (fun r_6 C_7 H locs hq_8 hP hD hS => ?_)
  obtain ⟨hT, f_9, hq_8⟩ := hq_8
  have hF := fr_tr hF f_9 (by decide) (by decide)
  refine W.widen (k := 0) (n := 0) (Nat.le_refl _) (Nat.le_refl _) ?_
  have t_10 := hT
  refine lv_pop hx hb dX6_goAlong_27 rfl ?_
  refine lv_aload_n hx hb dX6_goAlong_28 rfl (lv_at hl 0 rfl) ?_
  refine lv_iconst (v := 0) hx hb dX6_goAlong_29 (by decide) ?_
  refine lv_aload_n hx hb dX6_goAlong_30 rfl (lv_at hl 1 rfl) ?_
  refine va_get (D := D) (ci := 6) (v := .ref (a 3)) (C := RX6) (T := TX6) (N := 9) hx hb htg ig_6 hown hK hP 0 (oh_wg (by decide) (sX_0 hT)) rfl 3 (by decide) (htg _ q_261) (fun _ h9 => h9) rfl dX6_goAlong_31 ?_
  refine va_get (D := D) (ci := 5) (v := .ref (a 28)) (C := RX5) (T := TX5) (N := 7) hx hb htg ig_5 hown hK hP 3 (oh_wg (by decide) (sX_3 hT)) rfl 6 (by decide) (htg _ q_176) (fun _ h9 => h9) rfl dX6_goAlong_34 ?_
  refine lv_iconst (v := 3) hx hb dX6_goAlong_37 (by decide) ?_
  refine th_iald hx hb hK hP 28 (by decide) (sX_28 hT) (rg_in (rg_c (v := 3) (lo := 3) (hi := 3) (by decide)) (by decide)) dX6_goAlong_38 ?_
  refine th_iast (T := TyX a E) (Rl := fr [(12, 13), (16, 17), (28, 29)] [] C) hx hb hK hP hD hS 16 (by decide) (sX_16 hT) (rg_in (rg_c (v := 0) (lo := 0) (hi := 0) (by decide)) (by decide)) (hT.up 16 (tA_upd (tX_16 hT) (tA_stc (show _ = 0 by decide) (tA_rdc (lo := 0) (hi := 15) (tX_28 t_10) (rg_in (rg_c (v := 3) (lo := 3) (hi := 3) (by decide)) (by decide)) (show _ = 3 by decide) (by decide)) (by decide)))) (fr_st hF (by decide) (by decide)) dX6_goAlong_39 (fun C_11 H locs e_12 hT hF hP hD hS => ?_)
  have t_13 := hT
  refine lv_aload_n hx hb dX6_goAlong_40 rfl (lv_at hl 0 rfl) ?_
  refine lv_iconst (v := 2) hx hb dX6_goAlong_41 (by decide) ?_
  refine lv_dup2_11 hx hb dX6_goAlong_42 rfl rfl ?_
  refine th_iald hx hb hK hP 16 (by decide) (sX_16 hT) (rg_in (rg_c (v := 2) (lo := 2) (hi := 2) (by decide)) (by decide)) dX6_goAlong_43 ?_
  refine lv_aload_n hx hb dX6_goAlong_44 rfl (lv_at hl 1 rfl) ?_
  refine va_get (D := D) (ci := 6) (v := .ref (a 3)) (C := RX6) (T := TX6) (N := 9) hx hb htg ig_6 hown hK hP 0 (oh_wg (by decide) (sX_0 hT)) rfl 3 (by decide) (htg _ q_261) (fun _ h9 => h9) rfl dX6_goAlong_45 ?_
  refine va_get (D := D) (ci := 5) (v := .ref (a 28)) (C := RX5) (T := TX5) (N := 7) hx hb htg ig_5 hown hK hP 3 (oh_wg (by decide) (sX_3 hT)) rfl 6 (by decide) (htg _ q_176) (fun _ h9 => h9) rfl dX6_goAlong_48 ?_
  refine lv_iconst (v := 0) hx hb dX6_goAlong_51 (by decide) ?_
  refine th_iald hx hb hK hP 28 (by decide) (Eq.trans (th_un e_12 (by decide)) (sX_28 t_10)) (rg_in (rg_c (v := 0) (lo := 0) (hi := 0) (by decide)) (by decide)) dX6_goAlong_52 ?_
  refine lv_iadd hx hb dX6_goAlong_53 ?_
  refine th_iast (T := TyX a E) (Rl := fr [(12, 13), (16, 17), (28, 29)] [] C) hx hb hK hP hD hS 16 (by decide) (sX_16 hT) (rg_in (rg_c (v := 2) (lo := 2) (hi := 2) (by decide)) (by decide)) (hT.up 16 (tA_upd (tX_16 hT) (tA_stc (show _ = 2 by decide) (rg_any _) (by decide)))) (fr_st hF (by decide) (by decide)) dX6_goAlong_54 (fun C_14 H locs e_15 hT hF hP hD hS => ?_)
  have t_16 := hT
  refine lv_aload_n hx hb dX6_goAlong_55 rfl (lv_at hl 0 rfl) ?_
  refine lv_iconst (v := 3) hx hb dX6_goAlong_56 (by decide) ?_
  refine lv_dup2_11 hx hb dX6_goAlong_57 rfl rfl ?_
  refine th_iald hx hb hK hP 16 (by decide) (sX_16 hT) (rg_in (rg_c (v := 3) (lo := 3) (hi := 3) (by decide)) (by decide)) dX6_goAlong_58 ?_
  refine lv_aload_n hx hb dX6_goAlong_59 rfl (lv_at hl 1 rfl) ?_
  refine va_get (D := D) (ci := 6) (v := .ref (a 3)) (C := RX6) (T := TX6) (N := 9) hx hb htg ig_6 hown hK hP 0 (oh_wg (by decide) (sX_0 hT)) rfl 3 (by decide) (htg _ q_261) (fun _ h9 => h9) rfl dX6_goAlong_60 ?_
  refine va_get (D := D) (ci := 5) (v := .ref (a 28)) (C := RX5) (T := TX5) (N := 7) hx hb htg ig_5 hown hK hP 3 (oh_wg (by decide) (sX_3 hT)) rfl 6 (by decide) (htg _ q_176) (fun _ h9 => h9) rfl dX6_goAlong_63 ?_
  refine lv_iconst (v := 1) hx hb dX6_goAlong_66 (by decide) ?_
  refine th_iald hx hb hK hP 28 (by decide) (Eq.trans (Eq.trans (th_un e_15 (by decide)) (th_un e_12 (by decide))) (sX_28 t_10)) (rg_in (rg_c (v := 1) (lo := 1) (hi := 1) (by decide)) (by decide)) dX6_goAlong_67 ?_
  refine lv_iadd hx hb dX6_goAlong_68 ?_
  refine th_iast (T := TyX a E) (Rl := fr [(12, 13), (16, 17), (28, 29)] [] C) hx hb hK hP hD hS 16 (by decide) (sX_16 hT) (rg_in (rg_c (v := 3) (lo := 3) (hi := 3) (by decide)) (by decide)) (hT.up 16 (tA_upd (tX_16 hT) (tA_stc (show _ = 3 by decide) (rg_any _) (by decide)))) (fr_st hF (by decide) (by decide)) dX6_goAlong_69 (fun C_17 H locs e_18 hT hF hP hD hS => ?_)
  have t_19 := hT
  refine lv_aload_n hx hb dX6_goAlong_70 rfl (lv_at hl 0 rfl) ?_
  refine lv_iconst (v := 4) hx hb dX6_goAlong_71 (by decide) ?_
  refine lv_dup2_11 hx hb dX6_goAlong_72 rfl rfl ?_
  refine th_iald hx hb hK hP 16 (by decide) (sX_16 hT) (rg_in (rg_c (v := 4) (lo := 4) (hi := 4) (by decide)) (by decide)) dX6_goAlong_73 ?_
  refine lv_iconst (v := 1) hx hb dX6_goAlong_74 (by decide) ?_
  refine lv_iadd hx hb dX6_goAlong_75 ?_
  refine th_iast (T := TyX a E) (Rl := fr [(12, 13), (16, 17), (28, 29)] [] C) hx hb hK hP hD hS 16 (by decide) (sX_16 hT) (rg_in (rg_c (v := 4) (lo := 4) (hi := 4) (by decide)) (by decide)) (hT.up 16 (tA_upd (tX_16 hT) (tA_stc (show _ = 4 by decide) (rg_any _) (by decide)))) (fr_st hF (by decide) (by decide)) dX6_goAlong_76 (fun C_20 H locs e_21 hT hF hP hD hS => ?_)
  have t_22 := hT
  refine lv_aload_n hx hb dX6_goAlong_77 rfl (lv_at hl 1 rfl) ?_
  refine va_get (D := D) (ci := 6) (v := .ref (a 3)) (C := RX6) (T := TX6) (N := 9) hx hb htg ig_6 hown hK hP 0 (oh_wg (by decide) (sX_0 hT)) rfl 3 (by decide) (htg _ q_261) (fun _ h9 => h9) rfl dX6_goAlong_78 ?_
  refine lv_iload_n hx hb dX6_goAlong_81 rfl (lv_at hl 2 rfl) ?_
  refine tm_Vv (As := [.int x1]) (rest := []) ⟨hx, hb, hml, hown, htg⟩ (c_X5_standProps l D E G _ a C_20 hT x1) (cwV 1 htg (oh_gV q_924 q_925 q_926 q_68 q_927) rfl rfl rfl pdVX5_standProps ⟨Nat.le_of_ble_eq_true rfl, Nat.le_of_ble_eq_true rfl⟩) hK hP hD hG hS hA (va_recv hK hP (ci := 5) (q0 := 3) rfl (oh_wg (by decide) (sX_3 hT))) rfl hl.1 rfl (Nat.le_of_ble_eq_true rfl) dX6_goAlong_82 ⟨Nat.le_of_ble_eq_true rfl, Nat.le_of_ble_eq_true rfl⟩ (fun C_24 H locs hq_25 hP hD hS => ?_)
  obtain ⟨hT, f_26, hq_25⟩ := hq_25
  have hF := fr_tr hF f_26 (by decide) (by decide)
  refine W.widen (k := 0) (n := 0) (Nat.le_refl _) (Nat.le_refl _) ?_
  have t_27 := hT
  rw [hQ]
  exact W.vret hx hb hr (fun t ht hW => ⟨⟨C_24, rfl, ⟨hT, hF, trivial⟩, ⟨by rw [ht]; exact hP, hD⟩⟩, hS.F ht⟩) hS.2.2 dX6_goAlong_85

set_option maxHeartbeats 4000000 in
set_option maxRecDepth 100000 in
theorem c_X6_step (l : Launch) (D : va_G) (E : Nat → ClassId) (G : Nat → Nat) (sz : Nat) (a : Nat → Nat) (C : Nat → va_E) (hT : TyX a E C) : Met l yX6_step (oh_w yX6_step cX6_step 3 (some .int)) ({ frames := 5, cells := 0, slots := 0, locals := 126 }) (oh_Pm D E G [.ref (a 0)] (oh_W 35 a C) sz) (va_Qi (fun r (u : Nat → va_E) => TyX a E u ∧ fr [(7, 8), (9, 10), (12, 13), (16, 17), (24, 29)] [] C u ∧ True) (oh_B D (va_A (oh_W 35 a C) sz) (fun u => oh_W 35 a u)) (va_A (oh_W 35 a C) sz)) 0 0 (va_A (oh_W 35 a C) sz) := by
  refine Met.ofW (cc := cX6_step) (maxL := 3) (ret := (some .int)) (by decide) rfl ?_
  intro p e s m args below meth c s₁ B hml hv
  obtain ⟨rfl, hsz, hP, hK, hD0, hG⟩ := hv
  have hx := B.exec
  have hb := B.bytes
  have hr := B.returns
  have hts := atoms_spec (ws := (oh_w yX6_step cX6_step 3 (some .int))) B.pre
  have htg : ∀ w ∈ oh_t, w.before _ s = true := fun w h => hts w (List.mem_cons_of_mem _ h)
  have hown : s.vm.findClass RX6 = some m.cls := findClass_of_methodNamed B.named
  have hlocks := B.notSynchronized
  have hT0 := hT
  subst hsz
  have hD := hD0.self (sz := s.heap.size)
  generalize hAe : va_A (oh_W 35 a C) s.heap.size = A at hD hG ⊢
  have hA : ∀ q : Nat, s.heap.size ≤ q → A q := fun q h => by rw [← hAe]; exact Or.inr h
  have hS : va_S A s.heap s.heap [] := va_S.rf
  have hF : fr [(7, 8), (9, 10), (12, 13), (16, 17), (24, 29)] [] C C := fr_rf
  have hl := lv_entry ([.ref (a 0)]) (n := 3) (Nat.le_of_ble_eq_true rfl)
  rw [lg_entry_eq]
  generalize (lg_sl ([.ref (a 0)]) ++ List.replicate (3 - (lg_sl ([.ref (a 0)])).length) Slot.unset).toArray = ls at hl ⊢
  have hl : lv_has ls 3 [(0, .ref (a 0))] := hl
  refine oh_genQ (fun Q hQ => ?_)
  refine lv_aload_n hx hb dX6_step_0 rfl (lv_at hl 0 rfl) ?_
  refine va_get (D := D) (ci := 6) (v := .ref (a 1)) (C := RX6) (T := TX6) (N := 9) hx hb htg ig_6 hown hK hP 0 (oh_wg (by decide) (sX_0 hT)) rfl 0 (by decide) (htg _ q_258) (fun _ h9 => h9) rfl dX6_step_1 ?_
  refine va_get (D := D) (ci := 0) (v := .ref (a 16)) (C := RX0) (T := TX0) (N := 8) hx hb htg ig_0 hown hK hP 1 (oh_wg (by decide) (sX_1 hT)) rfl 6 (by decide) (htg _ q_112) (fun _ h9 => h9) rfl dX6_step_4 ?_
  refine lv_astore_n (lv' := [(1, .ref (a 16)), (0, .ref (a 0))]) hx hb dX6_step_7 rfl hl (by decide) rfl (fun ls hl => ?_)
  refine lv_aload_n hx hb dX6_step_8 rfl (lv_at hl 1 rfl) ?_
  refine va_get (D := D) (ci := 6) (v := .ref (a 1)) (C := RX6) (T := TX6) (N := 9) hx hb htg ig_6 hown hK hP 0 (oh_wg (by decide) (sX_0 hT)) rfl 0 (by decide) (htg _ q_258) (fun _ h9 => h9) rfl dX6_step_9 ?_
  refine va_get (D := D) (ci := 0) (v := .int (gi (C 1) 7)) (C := RX0) (T := TX0) (N := 8) hx hb htg ig_0 hown hK hP 1 (oh_wg (by decide) (sX_1 hT)) rfl 7 (by decide) (htg _ q_114) (fun _ h9 => h9) rfl dX6_step_12 ?_
  refine lv_if_eq (tgt := 27) hx hb dX6_step_15 (by decide) (fun (c_1 : (gi (C 1) 7) = 0) => ?_) (fun (c_1 : ¬ ((gi (C 1) 7) = 0)) => ?_)
  · refine lv_aload_n hx hb dX6_step_27 rfl (lv_at hl 1 rfl) ?_
    refine lv_bipush (v := (-5)) hx hb dX6_step_28 (by decide) ?_
    refine tm_V (As := [.int (-5)]) (rest := []) ⟨hx, hb, hml, hown, htg⟩ (c_X6_refuse l D E G _ a C hT ((-5) : Int32)) (cwV 1 htg (oh_gV q_296 q_298 q_0 q_66 q_299) rfl rfl rfl pdVX6_refuse ⟨Nat.le_of_ble_eq_true rfl, Nat.le_of_ble_eq_true rfl⟩) hK hP hD hG hS hA (va_recv hK hP (ci := 6) (q0 := 0) rfl (oh_wg (by decide) (sX_0 hT))) rfl hl.1 rfl (Nat.le_of_ble_eq_true rfl) dX6_step_30 ⟨Nat.le_of_ble_eq_true rfl, Nat.le_of_ble_eq_true rfl⟩ (fun r_2 C_3 H locs hq_4 hP hD hS => ?_)
    obtain ⟨hT, f_5, hq_4⟩ := hq_4
    have hF := fr_tr hF f_5 (by decide) (by decide)
    refine W.widen (k := 0) (n := 0) (Nat.le_refl _) (Nat.le_refl _) ?_
    have t_6 := hT
    rw [hQ]
    exact W.iret (v := r_2) hx hb hr (fun t ht hW => ⟨⟨r_2, C_3, rfl, ⟨hT, hF, trivial⟩, ⟨by rw [ht]; exact hP, hD⟩⟩, hS.F ht⟩) hS.2.2 dX6_step_33
  · refine lv_aload_n hx hb dX6_step_18 rfl (lv_at hl 0 rfl) ?_
    refine lv_iconst (v := 0) hx hb dX6_step_19 (by decide) ?_
    refine th_iald hx hb hK hP 16 (by decide) (sX_16 hT) (rg_in (rg_c (v := 0) (lo := 0) (hi := 0) (by decide)) (by decide)) dX6_step_20 ?_
    refine lv_aload_n hx hb dX6_step_21 rfl (lv_at hl 0 rfl) ?_
    refine lv_iconst (v := 1) hx hb dX6_step_22 (by decide) ?_
    refine th_iald hx hb hK hP 16 (by decide) (sX_16 hT) (rg_in (rg_c (v := 1) (lo := 1) (hi := 1) (by decide)) (by decide)) dX6_step_23 ?_
    refine lv_icmp_ne (tgt := 34) hx hb dX6_step_24 (by decide) (fun (c_7 : ¬ ((ga (C 16) ((0 : Int32)).toNatClampNeg) = (ga (C 16) ((1 : Int32)).toNatClampNeg))) => ?_) (fun (c_7 : (ga (C 16) ((0 : Int32)).toNatClampNeg) = (ga (C 16) ((1 : Int32)).toNatClampNeg)) => ?_)
    · refine lv_aload_n hx hb dX6_step_34 rfl (lv_at hl 1 rfl) ?_
      refine va_get (D := D) (ci := 6) (v := .ref (a 3)) (C := RX6) (T := TX6) (N := 9) hx hb htg ig_6 hown hK hP 0 (oh_wg (by decide) (sX_0 hT)) rfl 3 (by decide) (htg _ q_261) (fun _ h9 => h9) rfl dX6_step_35 ?_
      refine lv_aload_n hx hb dX6_step_38 rfl (lv_at hl 0 rfl) ?_
      refine lv_iconst (v := 5) hx hb dX6_step_39 (by decide) ?_
      refine th_iald hx hb hK hP 16 (by decide) (sX_16 hT) (rg_in (rg_c (v := 5) (lo := 5) (hi := 5) (by decide)) (by decide)) dX6_step_40 ?_
      refine lv_aload_n hx hb dX6_step_41 rfl (lv_at hl 0 rfl) ?_
      refine lv_bipush (v := 6) hx hb dX6_step_42 (by decide) ?_
      refine th_iald hx hb hK hP 16 (by decide) (sX_16 hT) (rg_in (rg_c (v := 6) (lo := 6) (hi := 6) (by decide)) (by decide)) dX6_step_44 ?_
      refine lv_aload_n hx hb dX6_step_45 rfl (lv_at hl 0 rfl) ?_
      refine lv_iconst (v := 0) hx hb dX6_step_46 (by decide) ?_
      refine th_iald hx hb hK hP 16 (by decide) (sX_16 hT) (rg_in (rg_c (v := 0) (lo := 0) (hi := 0) (by decide)) (by decide)) dX6_step_47 ?_
      refine lv_aload_n hx hb dX6_step_48 rfl (lv_at hl 0 rfl) ?_
      refine lv_iconst (v := 1) hx hb dX6_step_49 (by decide) ?_
      refine th_iald hx hb hK hP 16 (by decide) (sX_16 hT) (rg_in (rg_c (v := 1) (lo := 1) (hi := 1) (by decide)) (by decide)) dX6_step_50 ?_
      refine tm_V (As := [.int (ga (C 16) ((5 : Int32)).toNatClampNeg), .int (ga (C 16) ((6 : Int32)).toNatClampNeg), .int (ga (C 16) ((0 : Int32)).toNatClampNeg), .int (ga (C 16) ((1 : Int32)).toNatClampNeg)]) (rest := []) ⟨hx, hb, hml, hown, htg⟩ (c_X5_firstRoad l D E G _ a C hT (ga (C 16) ((5 : Int32)).toNatClampNeg) (ga (C 16) ((6 : Int32)).toNatClampNeg) (ga (C 16) ((0 : Int32)).toNatClampNeg) (ga (C 16) ((1 : Int32)).toNatClampNeg) (rg_w (tA_rdc (lo := 0) (hi := 4) (tX_16 hT0) (rg_in (rg_c (v := 5) (lo := 5) (hi := 5) (by decide)) (by decide)) (show _ = 5 by decide) (by decide)) (by decide)) (rg_w (tA_rdc (lo := 0) (hi := 15) (tX_16 hT0) (rg_in (rg_c (v := 0) (lo := 0) (hi := 0) (by decide)) (by decide)) (show _ = 0 by decide) (by decide)) (by decide)) (rg_w (tA_rdc (lo := 0) (hi := 15) (tX_16 hT0) (rg_in (rg_c (v := 1) (lo := 1) (hi := 1) (by decide)) (by decide)) (show _ = 1 by decide) (by decide)) (by decide))) (cwV 4 htg (oh_gV q_916 q_917 q_918 q_68 q_919) rfl rfl rfl pdVX5_firstRoad ⟨Nat.le_of_ble_eq_true rfl, Nat.le_of_ble_eq_true rfl⟩) hK hP hD hG hS hA (va_recv hK hP (ci := 5) (q0 := 3) rfl (oh_wg (by decide) (sX_3 hT))) rfl hl.1 rfl (Nat.le_of_ble_eq_true rfl) dX6_step_51 ⟨Nat.le_of_ble_eq_true rfl, Nat.le_of_ble_eq_true rfl⟩ (fun r_8 C_9 H locs hq_10 hP hD hS => ?_)
      obtain ⟨hT, f_11, hq_10⟩ := hq_10
      have hF := fr_tr hF f_11 (by decide) (by decide)
      refine W.widen (k := 0) (n := 0) (Nat.le_refl _) (Nat.le_refl _) ?_
      have t_12 := hT
      refine lv_istore_n (lv' := [(2, .int r_8), (1, .ref (a 16)), (0, .ref (a 0))]) hx hb dX6_step_54 rfl hl (by decide) rfl (fun ls hl => ?_)
      refine lv_iload_n hx hb dX6_step_55 rfl (lv_at hl 0 rfl) ?_
      refine lv_iconst (v := (-1)) hx hb dX6_step_56 (by decide) ?_
      refine lv_icmp_ne (tgt := 67) hx hb dX6_step_57 (by decide) (fun (c_13 : ¬ (r_8 = (-1))) => ?_) (fun (c_13 : r_8 = (-1)) => ?_)
      · refine lv_aload_n hx hb dX6_step_67 rfl (lv_at hl 2 rfl) ?_
        refine lv_iload_n hx hb dX6_step_68 rfl (lv_at hl 0 rfl) ?_
        refine tm_Vv (As := [.int r_8]) (rest := []) ⟨hx, hb, hml, hown, htg⟩ (c_X6_goAlong l D E G _ a C_9 hT r_8 (rg_w (rn_nel (l' := 0) c_13 hq_10 (rg_c (v := (-1)) (lo := (-1)) (hi := (-1)) (by decide)) (by decide)) (by decide))) (cwV 1 htg (oh_gV q_920 q_922 q_28 q_66 q_923) rfl rfl rfl pdVX6_goAlong ⟨Nat.le_of_ble_eq_true rfl, Nat.le_of_ble_eq_true rfl⟩) hK hP hD hG hS hA (va_recv hK hP (ci := 6) (q0 := 0) rfl (oh_wg (by decide) (sX_0 hT))) rfl hl.1 rfl (Nat.le_of_ble_eq_true rfl) dX6_step_69 ⟨Nat.le_of_ble_eq_true rfl, Nat.le_of_ble_eq_true rfl⟩ (fun C_15 H locs hq_16 hP hD hS => ?_)
        obtain ⟨hT, f_17, hq_16⟩ := hq_16
        have hF := fr_tr hF f_17 (by decide) (by decide)
        refine W.widen (k := 0) (n := 0) (Nat.le_refl _) (Nat.le_refl _) ?_
        have t_18 := hT
        refine lv_iload_n hx hb dX6_step_72 rfl (lv_at hl 0 rfl) ?_
        rw [hQ]
        exact W.iret (v := r_8) hx hb hr (fun t ht hW => ⟨⟨r_8, C_15, rfl, ⟨hT, hF, trivial⟩, ⟨by rw [ht]; exact hP, hD⟩⟩, hS.F ht⟩) hS.2.2 dX6_step_73
      · refine lv_aload_n hx hb dX6_step_60 rfl (lv_at hl 2 rfl) ?_
        refine lv_bipush (v := (-5)) hx hb dX6_step_61 (by decide) ?_
        refine tm_V (As := [.int (-5)]) (rest := []) ⟨hx, hb, hml, hown, htg⟩ (c_X6_refuse l D E G _ a C_9 hT ((-5) : Int32)) (cwV 1 htg (oh_gV q_296 q_298 q_0 q_66 q_299) rfl rfl rfl pdVX6_refuse ⟨Nat.le_of_ble_eq_true rfl, Nat.le_of_ble_eq_true rfl⟩) hK hP hD hG hS hA (va_recv hK hP (ci := 6) (q0 := 0) rfl (oh_wg (by decide) (sX_0 hT))) rfl hl.1 rfl (Nat.le_of_ble_eq_true rfl) dX6_step_63 ⟨Nat.le_of_ble_eq_true rfl, Nat.le_of_ble_eq_true rfl⟩ (fun r_19 C_20 H locs hq_21 hP hD hS => ?_)
        obtain ⟨hT, f_22, hq_21⟩ := hq_21
        have hF := fr_tr hF f_22 (by decide) (by decide)
        refine W.widen (k := 0) (n := 0) (Nat.le_refl _) (Nat.le_refl _) ?_
        have t_23 := hT
        rw [hQ]
        exact W.iret (v := r_19) hx hb hr (fun t ht hW => ⟨⟨r_19, C_20, rfl, ⟨hT, hF, trivial⟩, ⟨by rw [ht]; exact hP, hD⟩⟩, hS.F ht⟩) hS.2.2 dX6_step_66
    · refine lv_aload_n hx hb dX6_step_27 rfl (lv_at hl 1 rfl) ?_
      refine lv_bipush (v := (-5)) hx hb dX6_step_28 (by decide) ?_
      refine tm_V (As := [.int (-5)]) (rest := []) ⟨hx, hb, hml, hown, htg⟩ (c_X6_refuse l D E G _ a C hT ((-5) : Int32)) (cwV 1 htg (oh_gV q_296 q_298 q_0 q_66 q_299) rfl rfl rfl pdVX6_refuse ⟨Nat.le_of_ble_eq_true rfl, Nat.le_of_ble_eq_true rfl⟩) hK hP hD hG hS hA (va_recv hK hP (ci := 6) (q0 := 0) rfl (oh_wg (by decide) (sX_0 hT))) rfl hl.1 rfl (Nat.le_of_ble_eq_true rfl) dX6_step_30 ⟨Nat.le_of_ble_eq_true rfl, Nat.le_of_ble_eq_true rfl⟩ (fun r_24 C_25 H locs hq_26 hP hD hS => ?_)
      obtain ⟨hT, f_27, hq_26⟩ := hq_26
      have hF := fr_tr hF f_27 (by decide) (by decide)
      refine W.widen (k := 0) (n := 0) (Nat.le_refl _) (Nat.le_refl _) ?_
      have t_28 := hT
      rw [hQ]
      exact W.iret (v := r_24) hx hb hr (fun t ht hW => ⟨⟨r_24, C_25, rfl, ⟨hT, hF, trivial⟩, ⟨by rw [ht]; exact hP, hD⟩⟩, hS.F ht⟩) hS.2.2 dX6_step_33

set_option maxHeartbeats 4000000 in
set_option maxRecDepth 100000 in
theorem c_X6_under (l : Launch) (D : va_G) (E : Nat → ClassId) (G : Nat → Nat) (sz : Nat) (a : Nat → Nat) (C : Nat → va_E) (hT : TyX a E C) (x1 : Int32) : Met l yX6_under (oh_w yX6_under cX6_under 2 (some .int)) ({ frames := 2, cells := 0, slots := 0, locals := 44 }) (oh_Pm D E G [.ref (a 0), .int x1] (oh_W 35 a C) sz) (va_Qi (fun r (u : Nat → va_E) => TyX a E u ∧ fr [(7, 8)] [] C u ∧ True) (oh_B D (va_A (oh_W 35 a C) sz) (fun u => oh_W 35 a u)) (va_A (oh_W 35 a C) sz)) 0 0 (va_A (oh_W 35 a C) sz) := by
  refine Met.ofW (cc := cX6_under) (maxL := 2) (ret := (some .int)) (by decide) rfl ?_
  intro p e s m args below meth c s₁ B hml hv
  obtain ⟨rfl, hsz, hP, hK, hD0, hG⟩ := hv
  have hx := B.exec
  have hb := B.bytes
  have hr := B.returns
  have hts := atoms_spec (ws := (oh_w yX6_under cX6_under 2 (some .int))) B.pre
  have htg : ∀ w ∈ oh_t, w.before _ s = true := fun w h => hts w (List.mem_cons_of_mem _ h)
  have hown : s.vm.findClass RX6 = some m.cls := findClass_of_methodNamed B.named
  have hlocks := B.notSynchronized
  have hT0 := hT
  subst hsz
  have hD := hD0.self (sz := s.heap.size)
  generalize hAe : va_A (oh_W 35 a C) s.heap.size = A at hD hG ⊢
  have hA : ∀ q : Nat, s.heap.size ≤ q → A q := fun q h => by rw [← hAe]; exact Or.inr h
  have hS : va_S A s.heap s.heap [] := va_S.rf
  have hF : fr [(7, 8)] [] C C := fr_rf
  have hl := lv_entry ([.ref (a 0), .int x1]) (n := 2) (Nat.le_of_ble_eq_true rfl)
  rw [lg_entry_eq]
  generalize (lg_sl ([.ref (a 0), .int x1]) ++ List.replicate (2 - (lg_sl ([.ref (a 0), .int x1])).length) Slot.unset).toArray = ls at hl ⊢
  have hl : lv_has ls 2 [(0, .ref (a 0)), (1, .int x1)] := hl
  refine oh_genQ (fun Q hQ => ?_)
  refine lv_iload_n hx hb dX6_under_0 rfl (lv_at hl 1 rfl) ?_
  refine lv_iconst (v := 0) hx hb dX6_under_1 (by decide) ?_
  refine lv_iconst (v := 4) hx hb dX6_under_2 (by decide) ?_
  refine tq_S (As := [.int x1, .int 0, .int 4]) (rest := []) (ws := []) ⟨hx, hb, hml, hown, htg⟩ (c_X6_within l D E G x1 (0 : Int32) (4 : Int32)) (va_cwS 3 htg (oh_gS q_293 q_294 q_66 q_295) rfl rfl rfl pdX6_within ⟨Nat.le_of_ble_eq_true rfl, Nat.le_of_ble_eq_true rfl⟩) hK va_nil hG hS rfl hl.1 rfl (Nat.le_of_ble_eq_true rfl) dX6_under_3 ⟨Nat.le_of_ble_eq_true rfl, Nat.le_of_ble_eq_true rfl⟩ (fun r_1 hq_2 => ?_)
  refine lv_if_ne (tgt := 16) hx hb dX6_under_6 (by decide) (fun (c_3 : ¬ (r_1 = 0)) => ?_) (fun (c_3 : r_1 = 0) => ?_)
  · have u_4 := hq_2.2.1 c_3
    refine lv_aload_n hx hb dX6_under_16 rfl (lv_at hl 0 rfl) ?_
    refine va_get (D := D) (ci := 6) (v := .ref (a 1)) (C := RX6) (T := TX6) (N := 9) hx hb htg ig_6 hown hK hP 0 (oh_wg (by decide) (sX_0 hT)) rfl 0 (by decide) (htg _ q_258) (fun _ h9 => h9) rfl dX6_under_17 ?_
    refine va_get (D := D) (ci := 0) (v := .int (gi (C 1) 7)) (C := RX0) (T := TX0) (N := 8) hx hb htg ig_0 hown hK hP 1 (oh_wg (by decide) (sX_1 hT)) rfl 7 (by decide) (htg _ q_114) (fun _ h9 => h9) rfl dX6_under_20 ?_
    refine lv_if_eq (tgt := 38) hx hb dX6_under_23 (by decide) (fun (c_5 : (gi (C 1) 7) = 0) => ?_) (fun (c_5 : ¬ ((gi (C 1) 7) = 0)) => ?_)
    · refine lv_aload_n hx hb dX6_under_38 rfl (lv_at hl 0 rfl) ?_
      refine lv_bipush (v := (-5)) hx hb dX6_under_39 (by decide) ?_
      refine tm_V (As := [.int (-5)]) (rest := []) ⟨hx, hb, hml, hown, htg⟩ (c_X6_refuse l D E G _ a C hT ((-5) : Int32)) (cwV 1 htg (oh_gV q_296 q_298 q_0 q_66 q_299) rfl rfl rfl pdVX6_refuse ⟨Nat.le_of_ble_eq_true rfl, Nat.le_of_ble_eq_true rfl⟩) hK hP hD hG hS hA (va_recv hK hP (ci := 6) (q0 := 0) rfl (oh_wg (by decide) (sX_0 hT))) rfl hl.1 rfl (Nat.le_of_ble_eq_true rfl) dX6_under_41 ⟨Nat.le_of_ble_eq_true rfl, Nat.le_of_ble_eq_true rfl⟩ (fun r_6 C_7 H locs hq_8 hP hD hS => ?_)
      obtain ⟨hT, f_9, hq_8⟩ := hq_8
      have hF := fr_tr hF f_9 (by decide) (by decide)
      refine W.widen (k := 0) (n := 0) (Nat.le_refl _) (Nat.le_refl _) ?_
      have t_10 := hT
      rw [hQ]
      exact W.iret (v := r_6) hx hb hr (fun t ht hW => ⟨⟨r_6, C_7, rfl, ⟨hT, hF, trivial⟩, ⟨by rw [ht]; exact hP, hD⟩⟩, hS.F ht⟩) hS.2.2 dX6_under_44
    · refine lv_aload_n hx hb dX6_under_26 rfl (lv_at hl 0 rfl) ?_
      refine va_get (D := D) (ci := 6) (v := .ref (a 1)) (C := RX6) (T := TX6) (N := 9) hx hb htg ig_6 hown hK hP 0 (oh_wg (by decide) (sX_0 hT)) rfl 0 (by decide) (htg _ q_258) (fun _ h9 => h9) rfl dX6_under_27 ?_
      refine va_get (D := D) (ci := 0) (v := .ref (a 16)) (C := RX0) (T := TX0) (N := 8) hx hb htg ig_0 hown hK hP 1 (oh_wg (by decide) (sX_1 hT)) rfl 6 (by decide) (htg _ q_112) (fun _ h9 => h9) rfl dX6_under_30 ?_
      refine lv_iload_n hx hb dX6_under_33 rfl (lv_at hl 1 rfl) ?_
      have n_11 : vp_in x1 7 := (rg_in (rn_leu u_4.2 (rn_lel u_4.1 (rg_c (v := 0) (lo := 0) (hi := 0) (by decide)) (rg_any _)) (rg_c (v := 4) (lo := 4) (hi := 4) (by decide))) (by decide))
      refine th_iald hx hb hK hP 16 (by decide) (sX_16 hT) n_11 dX6_under_34 ?_
      refine lv_goto (tgt := 44) hx hb dX6_under_35 (by decide) ?_
      rw [hQ]
      exact W.iret (v := ga (C 16) (x1).toNatClampNeg) hx hb hr (fun t ht hW => ⟨⟨ga (C 16) (x1).toNatClampNeg, C, rfl, ⟨hT, hF, trivial⟩, ⟨by rw [ht]; exact hP, hD⟩⟩, hS.F ht⟩) hS.2.2 dX6_under_44
  · have u_12 := hq_2.2.2 c_3
    refine lv_aload_n hx hb dX6_under_9 rfl (lv_at hl 0 rfl) ?_
    refine lv_bipush (v := (-2)) hx hb dX6_under_10 (by decide) ?_
    refine tm_V (As := [.int (-2)]) (rest := []) ⟨hx, hb, hml, hown, htg⟩ (c_X6_refuse l D E G _ a C hT ((-2) : Int32)) (cwV 1 htg (oh_gV q_296 q_298 q_0 q_66 q_299) rfl rfl rfl pdVX6_refuse ⟨Nat.le_of_ble_eq_true rfl, Nat.le_of_ble_eq_true rfl⟩) hK hP hD hG hS hA (va_recv hK hP (ci := 6) (q0 := 0) rfl (oh_wg (by decide) (sX_0 hT))) rfl hl.1 rfl (Nat.le_of_ble_eq_true rfl) dX6_under_12 ⟨Nat.le_of_ble_eq_true rfl, Nat.le_of_ble_eq_true rfl⟩ (fun r_13 C_14 H locs hq_15 hP hD hS => ?_)
    obtain ⟨hT, f_16, hq_15⟩ := hq_15
    have hF := fr_tr hF f_16 (by decide) (by decide)
    refine W.widen (k := 0) (n := 0) (Nat.le_refl _) (Nat.le_refl _) ?_
    have t_17 := hT
    rw [hQ]
    exact W.iret (v := r_13) hx hb hr (fun t ht hW => ⟨⟨r_13, C_14, rfl, ⟨hT, hF, trivial⟩, ⟨by rw [ht]; exact hP, hD⟩⟩, hS.F ht⟩) hS.2.2 dX6_under_15

set_option maxHeartbeats 4000000 in
set_option maxRecDepth 100000 in
theorem c_X0_become_b (l : Launch) (D : va_G) (E : Nat → ClassId) (G : Nat → Nat) (sz : Nat) (a : Nat → Nat) (C : Nat → va_E) (hT : TyX a E C) : Met l yX0_become (oh_w yX0_become cX0_become 2 none) ({ frames := 1, cells := 0, slots := 0, locals := 18 }) (oh_Pm D E G [.ref (a 1), .ref (a 2)] (oh_W 35 a C) sz) (va_Qv (fun (u : Nat → va_E) => TyX a E u ∧ fr [(1, 2), (10, 17)] [] C u ∧ True) (oh_B D (va_A (oh_W 35 a C) sz) (fun u => oh_W 35 a u)) (va_A (oh_W 35 a C) sz)) 0 0 (va_A (oh_W 35 a C) sz) := by
  refine Met.ofW (cc := cX0_become) (maxL := 2) (ret := none) (by decide) rfl ?_
  intro p e s m args below meth c s₁ B hml hv
  obtain ⟨rfl, hsz, hP, hK, hD0, hG⟩ := hv
  have hx := B.exec
  have hb := B.bytes
  have hr := B.returns
  have hts := atoms_spec (ws := (oh_w yX0_become cX0_become 2 none)) B.pre
  have htg : ∀ w ∈ oh_t, w.before _ s = true := fun w h => hts w (List.mem_cons_of_mem _ h)
  have hown : s.vm.findClass RX0 = some m.cls := findClass_of_methodNamed B.named
  have hlocks := B.notSynchronized
  have hT0 := hT
  subst hsz
  have hD := hD0.self (sz := s.heap.size)
  generalize hAe : va_A (oh_W 35 a C) s.heap.size = A at hD hG ⊢
  have hA : ∀ q : Nat, s.heap.size ≤ q → A q := fun q h => by rw [← hAe]; exact Or.inr h
  have hS : va_S A s.heap s.heap [] := va_S.rf
  have hF : fr [(1, 2), (10, 17)] [] C C := fr_rf
  have hl := lv_entry ([.ref (a 1), .ref (a 2)]) (n := 2) (Nat.le_of_ble_eq_true rfl)
  rw [lg_entry_eq]
  generalize (lg_sl ([.ref (a 1), .ref (a 2)]) ++ List.replicate (2 - (lg_sl ([.ref (a 1), .ref (a 2)])).length) Slot.unset).toArray = ls at hl ⊢
  have hl : lv_has ls 2 [(0, .ref (a 1)), (1, .ref (a 2))] := hl
  refine oh_genQ (fun Q hQ => ?_)
  refine lv_aload_n hx hb dX0_become_0 rfl (lv_at hl 1 rfl) ?_
  refine va_get (D := D) (ci := 0) (v := .ref (a 17)) (C := RX0) (T := TX0) (N := 8) hx hb htg ig_0 hown hK hP 2 (oh_wg (by decide) (sX_2 hT)) rfl 0 (by decide) (htg _ q_97) (fun _ h9 => h9) rfl dX0_become_1 ?_
  refine lv_iconst (v := 0) hx hb dX0_become_4 (by decide) ?_
  refine lv_aload_n hx hb dX0_become_5 rfl (lv_at hl 0 rfl) ?_
  refine va_get (D := D) (ci := 0) (v := .ref (a 10)) (C := RX0) (T := TX0) (N := 8) hx hb htg ig_0 hown hK hP 1 (oh_wg (by decide) (sX_1 hT)) rfl 0 (by decide) (htg _ q_97) (fun _ h9 => h9) rfl dX0_become_6 ?_
  refine lv_iconst (v := 0) hx hb dX0_become_9 (by decide) ?_
  refine lv_aload_n hx hb dX0_become_10 rfl (lv_at hl 0 rfl) ?_
  refine va_get (D := D) (ci := 0) (v := .ref (a 10)) (C := RX0) (T := TX0) (N := 8) hx hb htg ig_0 hown hK hP 1 (oh_wg (by decide) (sX_1 hT)) rfl 0 (by decide) (htg _ q_97) (fun _ h9 => h9) rfl dX0_become_11 ?_
  refine va_alen (v := 4) hx hb hK hP 10 0 (oh_wg (by decide) (sX_10 hT)) rfl (show Int32.ofNat 4 = 4 by decide) dX0_become_14 ?_
  refine th_copyi (T := TyX a E) (Rl := fr [(1, 2), (10, 17)] [] C) hx hb (by rw [hml]; exact hl.1.symm) hown (htg _ q_941) (htg _ q_347) (htg _ q_346) (htg _ q_74) hK hP hD hS 17 10 (by decide) (by decide) (sX_17 hT) (sX_10 hT) (by decide) (by decide) (by decide) (by decide) (by decide) (hT.up 10 (tA_cpy (tX_17 hT) (tX_10 hT))) (fr_st hF (by decide) (by decide)) (Nat.le_of_ble_eq_true rfl) (Nat.le_of_ble_eq_true rfl) dX0_become_15 (fun C_1 H locs e_2 hT hF hP hD hS => ?_)
  have t_3 := hT
  refine lv_aload_n hx hb dX0_become_18 rfl (lv_at hl 1 rfl) ?_
  refine va_get (D := D) (ci := 0) (v := .ref (a 18)) (C := RX0) (T := TX0) (N := 8) hx hb htg ig_0 hown hK hP 2 (oh_wg (by decide) (sX_2 hT)) rfl 1 (by decide) (htg _ q_101) (fun _ h9 => h9) rfl dX0_become_19 ?_
  refine lv_iconst (v := 0) hx hb dX0_become_22 (by decide) ?_
  refine lv_aload_n hx hb dX0_become_23 rfl (lv_at hl 0 rfl) ?_
  refine va_get (D := D) (ci := 0) (v := .ref (a 11)) (C := RX0) (T := TX0) (N := 8) hx hb htg ig_0 hown hK hP 1 (oh_wg (by decide) (sX_1 hT)) rfl 1 (by decide) (htg _ q_101) (fun _ h9 => h9) rfl dX0_become_24 ?_
  refine lv_iconst (v := 0) hx hb dX0_become_27 (by decide) ?_
  refine lv_aload_n hx hb dX0_become_28 rfl (lv_at hl 0 rfl) ?_
  refine va_get (D := D) (ci := 0) (v := .ref (a 11)) (C := RX0) (T := TX0) (N := 8) hx hb htg ig_0 hown hK hP 1 (oh_wg (by decide) (sX_1 hT)) rfl 1 (by decide) (htg _ q_101) (fun _ h9 => h9) rfl dX0_become_29 ?_
  refine va_alen (v := 168) hx hb hK hP 11 0 (oh_wg (by decide) (sX_11 hT)) rfl (show Int32.ofNat 168 = 168 by decide) dX0_become_32 ?_
  refine th_copyi (T := TyX a E) (Rl := fr [(1, 2), (10, 17)] [] C) hx hb (by rw [hml]; exact hl.1.symm) hown (htg _ q_941) (htg _ q_347) (htg _ q_346) (htg _ q_74) hK hP hD hS 18 11 (by decide) (by decide) (sX_18 hT) (sX_11 hT) (by decide) (by decide) (by decide) (by decide) (by decide) (hT.up 11 (tA_cpy (tX_18 hT) (tX_11 hT))) (fr_st hF (by decide) (by decide)) (Nat.le_of_ble_eq_true rfl) (Nat.le_of_ble_eq_true rfl) dX0_become_33 (fun C_4 H locs e_5 hT hF hP hD hS => ?_)
  have t_6 := hT
  refine lv_aload_n hx hb dX0_become_36 rfl (lv_at hl 1 rfl) ?_
  refine va_get (D := D) (ci := 0) (v := .ref (a 19)) (C := RX0) (T := TX0) (N := 8) hx hb htg ig_0 hown hK hP 2 (oh_wg (by decide) (sX_2 hT)) rfl 2 (by decide) (htg _ q_103) (fun _ h9 => h9) rfl dX0_become_37 ?_
  refine lv_iconst (v := 0) hx hb dX0_become_40 (by decide) ?_
  refine lv_aload_n hx hb dX0_become_41 rfl (lv_at hl 0 rfl) ?_
  refine va_get (D := D) (ci := 0) (v := .ref (a 12)) (C := RX0) (T := TX0) (N := 8) hx hb htg ig_0 hown hK hP 1 (oh_wg (by decide) (sX_1 hT)) rfl 2 (by decide) (htg _ q_103) (fun _ h9 => h9) rfl dX0_become_42 ?_
  refine lv_iconst (v := 0) hx hb dX0_become_45 (by decide) ?_
  refine lv_aload_n hx hb dX0_become_46 rfl (lv_at hl 0 rfl) ?_
  refine va_get (D := D) (ci := 0) (v := .ref (a 12)) (C := RX0) (T := TX0) (N := 8) hx hb htg ig_0 hown hK hP 1 (oh_wg (by decide) (sX_1 hT)) rfl 2 (by decide) (htg _ q_103) (fun _ h9 => h9) rfl dX0_become_47 ?_
  refine va_alen (v := 160) hx hb hK hP 12 0 (oh_wg (by decide) (sX_12 hT)) rfl (show Int32.ofNat 160 = 160 by decide) dX0_become_50 ?_
  refine th_copyi (T := TyX a E) (Rl := fr [(1, 2), (10, 17)] [] C) hx hb (by rw [hml]; exact hl.1.symm) hown (htg _ q_941) (htg _ q_347) (htg _ q_346) (htg _ q_74) hK hP hD hS 19 12 (by decide) (by decide) (sX_19 hT) (sX_12 hT) (by decide) (by decide) (by decide) (by decide) (by decide) (hT.up 12 (tA_cpy (tX_19 hT) (tX_12 hT))) (fr_st hF (by decide) (by decide)) (Nat.le_of_ble_eq_true rfl) (Nat.le_of_ble_eq_true rfl) dX0_become_51 (fun C_7 H locs e_8 hT hF hP hD hS => ?_)
  have t_9 := hT
  refine lv_aload_n hx hb dX0_become_54 rfl (lv_at hl 1 rfl) ?_
  refine va_get (D := D) (ci := 0) (v := .ref (a 20)) (C := RX0) (T := TX0) (N := 8) hx hb htg ig_0 hown hK hP 2 (oh_wg (by decide) (sX_2 hT)) rfl 3 (by decide) (htg _ q_104) (fun _ h9 => h9) rfl dX0_become_55 ?_
  refine lv_iconst (v := 0) hx hb dX0_become_58 (by decide) ?_
  refine lv_aload_n hx hb dX0_become_59 rfl (lv_at hl 0 rfl) ?_
  refine va_get (D := D) (ci := 0) (v := .ref (a 13)) (C := RX0) (T := TX0) (N := 8) hx hb htg ig_0 hown hK hP 1 (oh_wg (by decide) (sX_1 hT)) rfl 3 (by decide) (htg _ q_104) (fun _ h9 => h9) rfl dX0_become_60 ?_
  refine lv_iconst (v := 0) hx hb dX0_become_63 (by decide) ?_
  refine lv_aload_n hx hb dX0_become_64 rfl (lv_at hl 0 rfl) ?_
  refine va_get (D := D) (ci := 0) (v := .ref (a 13)) (C := RX0) (T := TX0) (N := 8) hx hb htg ig_0 hown hK hP 1 (oh_wg (by decide) (sX_1 hT)) rfl 3 (by decide) (htg _ q_104) (fun _ h9 => h9) rfl dX0_become_65 ?_
  refine va_alen (v := 15) hx hb hK hP 13 0 (oh_wg (by decide) (sX_13 hT)) rfl (show Int32.ofNat 15 = 15 by decide) dX0_become_68 ?_
  refine th_copyi (T := TyX a E) (Rl := fr [(1, 2), (10, 17)] [] C) hx hb (by rw [hml]; exact hl.1.symm) hown (htg _ q_941) (htg _ q_347) (htg _ q_346) (htg _ q_74) hK hP hD hS 20 13 (by decide) (by decide) (sX_20 hT) (sX_13 hT) (by decide) (by decide) (by decide) (by decide) (by decide) (hT.up 13 (tA_cpy (tX_20 hT) (tX_13 hT))) (fr_st hF (by decide) (by decide)) (Nat.le_of_ble_eq_true rfl) (Nat.le_of_ble_eq_true rfl) dX0_become_69 (fun C_10 H locs e_11 hT hF hP hD hS => ?_)
  have t_12 := hT
  refine lv_aload_n hx hb dX0_become_72 rfl (lv_at hl 1 rfl) ?_
  refine va_get (D := D) (ci := 0) (v := .ref (a 21)) (C := RX0) (T := TX0) (N := 8) hx hb htg ig_0 hown hK hP 2 (oh_wg (by decide) (sX_2 hT)) rfl 4 (by decide) (htg _ q_105) (fun _ h9 => h9) rfl dX0_become_73 ?_
  refine lv_iconst (v := 0) hx hb dX0_become_76 (by decide) ?_
  refine lv_aload_n hx hb dX0_become_77 rfl (lv_at hl 0 rfl) ?_
  refine va_get (D := D) (ci := 0) (v := .ref (a 14)) (C := RX0) (T := TX0) (N := 8) hx hb htg ig_0 hown hK hP 1 (oh_wg (by decide) (sX_1 hT)) rfl 4 (by decide) (htg _ q_105) (fun _ h9 => h9) rfl dX0_become_78 ?_
  refine lv_iconst (v := 0) hx hb dX0_become_81 (by decide) ?_
  refine lv_aload_n hx hb dX0_become_82 rfl (lv_at hl 0 rfl) ?_
  refine va_get (D := D) (ci := 0) (v := .ref (a 14)) (C := RX0) (T := TX0) (N := 8) hx hb htg ig_0 hown hK hP 1 (oh_wg (by decide) (sX_1 hT)) rfl 4 (by decide) (htg _ q_105) (fun _ h9 => h9) rfl dX0_become_83 ?_
  refine va_alen (v := 10) hx hb hK hP 14 0 (oh_wg (by decide) (sX_14 hT)) rfl (show Int32.ofNat 10 = 10 by decide) dX0_become_86 ?_
  refine th_copyi (T := TyX a E) (Rl := fr [(1, 2), (10, 17)] [] C) hx hb (by rw [hml]; exact hl.1.symm) hown (htg _ q_941) (htg _ q_347) (htg _ q_346) (htg _ q_74) hK hP hD hS 21 14 (by decide) (by decide) (sX_21 hT) (sX_14 hT) (by decide) (by decide) (by decide) (by decide) (by decide) (hT.up 14 (tA_cpy (tX_21 hT) (tX_14 hT))) (fr_st hF (by decide) (by decide)) (Nat.le_of_ble_eq_true rfl) (Nat.le_of_ble_eq_true rfl) dX0_become_87 (fun C_13 H locs e_14 hT hF hP hD hS => ?_)
  have t_15 := hT
  refine lv_aload_n hx hb dX0_become_90 rfl (lv_at hl 1 rfl) ?_
  refine va_get (D := D) (ci := 0) (v := .ref (a 22)) (C := RX0) (T := TX0) (N := 8) hx hb htg ig_0 hown hK hP 2 (oh_wg (by decide) (sX_2 hT)) rfl 5 (by decide) (htg _ q_106) (fun _ h9 => h9) rfl dX0_become_91 ?_
  refine lv_iconst (v := 0) hx hb dX0_become_94 (by decide) ?_
  refine lv_aload_n hx hb dX0_become_95 rfl (lv_at hl 0 rfl) ?_
  refine va_get (D := D) (ci := 0) (v := .ref (a 15)) (C := RX0) (T := TX0) (N := 8) hx hb htg ig_0 hown hK hP 1 (oh_wg (by decide) (sX_1 hT)) rfl 5 (by decide) (htg _ q_106) (fun _ h9 => h9) rfl dX0_become_96 ?_
  refine lv_iconst (v := 0) hx hb dX0_become_99 (by decide) ?_
  refine lv_aload_n hx hb dX0_become_100 rfl (lv_at hl 0 rfl) ?_
  refine va_get (D := D) (ci := 0) (v := .ref (a 15)) (C := RX0) (T := TX0) (N := 8) hx hb htg ig_0 hown hK hP 1 (oh_wg (by decide) (sX_1 hT)) rfl 5 (by decide) (htg _ q_106) (fun _ h9 => h9) rfl dX0_become_101 ?_
  refine va_alen (v := 3) hx hb hK hP 15 0 (oh_wg (by decide) (sX_15 hT)) rfl (show Int32.ofNat 3 = 3 by decide) dX0_become_104 ?_
  refine th_copyi (T := TyX a E) (Rl := fr [(1, 2), (10, 17)] [] C) hx hb (by rw [hml]; exact hl.1.symm) hown (htg _ q_941) (htg _ q_347) (htg _ q_346) (htg _ q_74) hK hP hD hS 22 15 (by decide) (by decide) (sX_22 hT) (sX_15 hT) (by decide) (by decide) (by decide) (by decide) (by decide) (hT.up 15 (tA_cpy (tX_22 hT) (tX_15 hT))) (fr_st hF (by decide) (by decide)) (Nat.le_of_ble_eq_true rfl) (Nat.le_of_ble_eq_true rfl) dX0_become_105 (fun C_16 H locs e_17 hT hF hP hD hS => ?_)
  have t_18 := hT
  refine lv_aload_n hx hb dX0_become_108 rfl (lv_at hl 1 rfl) ?_
  refine va_get (D := D) (ci := 0) (v := .ref (a 23)) (C := RX0) (T := TX0) (N := 8) hx hb htg ig_0 hown hK hP 2 (oh_wg (by decide) (sX_2 hT)) rfl 6 (by decide) (htg _ q_111) (fun _ h9 => h9) rfl dX0_become_109 ?_
  refine lv_iconst (v := 0) hx hb dX0_become_112 (by decide) ?_
  refine lv_aload_n hx hb dX0_become_113 rfl (lv_at hl 0 rfl) ?_
  refine va_get (D := D) (ci := 0) (v := .ref (a 16)) (C := RX0) (T := TX0) (N := 8) hx hb htg ig_0 hown hK hP 1 (oh_wg (by decide) (sX_1 hT)) rfl 6 (by decide) (htg _ q_111) (fun _ h9 => h9) rfl dX0_become_114 ?_
  refine lv_iconst (v := 0) hx hb dX0_become_117 (by decide) ?_
  refine lv_aload_n hx hb dX0_become_118 rfl (lv_at hl 0 rfl) ?_
  refine va_get (D := D) (ci := 0) (v := .ref (a 16)) (C := RX0) (T := TX0) (N := 8) hx hb htg ig_0 hown hK hP 1 (oh_wg (by decide) (sX_1 hT)) rfl 6 (by decide) (htg _ q_111) (fun _ h9 => h9) rfl dX0_become_119 ?_
  refine va_alen (v := 7) hx hb hK hP 16 0 (oh_wg (by decide) (sX_16 hT)) rfl (show Int32.ofNat 7 = 7 by decide) dX0_become_122 ?_
  refine th_copyi (T := TyX a E) (Rl := fr [(1, 2), (10, 17)] [] C) hx hb (by rw [hml]; exact hl.1.symm) hown (htg _ q_941) (htg _ q_347) (htg _ q_346) (htg _ q_74) hK hP hD hS 23 16 (by decide) (by decide) (sX_23 hT) (sX_16 hT) (by decide) (by decide) (by decide) (by decide) (by decide) (hT.up 16 (tA_cpy (tX_23 hT) (tX_16 hT))) (fr_st hF (by decide) (by decide)) (Nat.le_of_ble_eq_true rfl) (Nat.le_of_ble_eq_true rfl) dX0_become_123 (fun C_19 H locs e_20 hT hF hP hD hS => ?_)
  have t_21 := hT
  refine lv_aload_n hx hb dX0_become_126 rfl (lv_at hl 0 rfl) ?_
  refine lv_aload_n hx hb dX0_become_127 rfl (lv_at hl 1 rfl) ?_
  refine va_get (D := D) (ci := 0) (v := .int (gi (C 2) 7)) (C := RX0) (T := TX0) (N := 8) hx hb htg ig_0 hown hK hP 2 (oh_wg (by decide) (sX_2 hT)) rfl 7 (by decide) (htg _ q_113) (fun _ h9 => h9) (oh_fv (c := C_19 2) (j := 7) rfl (Eq.trans (congrArg (fun z => gi z 7) (th_un e_20 (by decide))) (Eq.trans (congrArg (fun z => gi z 7) (th_un e_17 (by decide))) (Eq.trans (congrArg (fun z => gi z 7) (th_un e_14 (by decide))) (Eq.trans (congrArg (fun z => gi z 7) (th_un e_11 (by decide))) (Eq.trans (congrArg (fun z => gi z 7) (th_un e_8 (by decide))) (Eq.trans (congrArg (fun z => gi z 7) (th_un e_5 (by decide))) (congrArg (fun z => gi z 7) (th_un e_2 (by decide)))))))))) dX0_become_128 ?_
  refine th_put (Tp := TyX a E) (Rl := fr [(1, 2), (10, 17)] [] C) (ci := 0) (v := .int (gi (C 2) 7)) (ty := .boolean) (CC := RX0) (T := TX0) (N := 8) hx hb htg ig_0 tyX0 tyX0_ok nmX0 hown hK hP hD hS 1 (by decide) (sX_1 hT) rfl 7 (by decide) (htg _ q_113) (fun _ h9 => h9) rfl (by decide +kernel) (oh_nb (oh_rgb2 (fX_2_7 hT0))) (oh_fz (oh_rgb2 (fX_2_7 hT0))) (Nat.le_of_ble_eq_true rfl) (hT.up 1 ⟨rfl, (oh_rgb (oh_rgb2 (fX_2_7 hT0)))⟩) (fr_st hF (by decide) (by decide)) dX0_become_131 (fun C_22 H locs e_23 hT hF hP hD hS => ?_)
  have t_24 := hT
  rw [hQ]
  exact W.vret hx hb hr (fun t ht hW => ⟨⟨C_22, rfl, ⟨hT, hF, trivial⟩, ⟨by rw [ht]; exact hP, hD⟩⟩, hS.F ht⟩) hS.2.2 dX0_become_134

set_option maxHeartbeats 4000000 in
set_option maxRecDepth 100000 in
theorem c_X0_become_i (l : Launch) (D : va_G) (E : Nat → ClassId) (G : Nat → Nat) (sz : Nat) (a : Nat → Nat) (C : Nat → va_E) (hT : TyX a E C) : Met l yX0_become (oh_w yX0_become cX0_become 2 none) ({ frames := 1, cells := 0, slots := 0, locals := 18 }) (oh_Pm D E G [.ref (a 2), .ref (a 1)] (oh_W 35 a C) sz) (va_Qv (fun (u : Nat → va_E) => TyX a E u ∧ fr [(2, 3), (17, 24)] [] C u ∧ True) (oh_B D (va_A (oh_W 35 a C) sz) (fun u => oh_W 35 a u)) (va_A (oh_W 35 a C) sz)) 0 0 (va_A (oh_W 35 a C) sz) := by
  refine Met.ofW (cc := cX0_become) (maxL := 2) (ret := none) (by decide) rfl ?_
  intro p e s m args below meth c s₁ B hml hv
  obtain ⟨rfl, hsz, hP, hK, hD0, hG⟩ := hv
  have hx := B.exec
  have hb := B.bytes
  have hr := B.returns
  have hts := atoms_spec (ws := (oh_w yX0_become cX0_become 2 none)) B.pre
  have htg : ∀ w ∈ oh_t, w.before _ s = true := fun w h => hts w (List.mem_cons_of_mem _ h)
  have hown : s.vm.findClass RX0 = some m.cls := findClass_of_methodNamed B.named
  have hlocks := B.notSynchronized
  have hT0 := hT
  subst hsz
  have hD := hD0.self (sz := s.heap.size)
  generalize hAe : va_A (oh_W 35 a C) s.heap.size = A at hD hG ⊢
  have hA : ∀ q : Nat, s.heap.size ≤ q → A q := fun q h => by rw [← hAe]; exact Or.inr h
  have hS : va_S A s.heap s.heap [] := va_S.rf
  have hF : fr [(2, 3), (17, 24)] [] C C := fr_rf
  have hl := lv_entry ([.ref (a 2), .ref (a 1)]) (n := 2) (Nat.le_of_ble_eq_true rfl)
  rw [lg_entry_eq]
  generalize (lg_sl ([.ref (a 2), .ref (a 1)]) ++ List.replicate (2 - (lg_sl ([.ref (a 2), .ref (a 1)])).length) Slot.unset).toArray = ls at hl ⊢
  have hl : lv_has ls 2 [(0, .ref (a 2)), (1, .ref (a 1))] := hl
  refine oh_genQ (fun Q hQ => ?_)
  refine lv_aload_n hx hb dX0_become_0 rfl (lv_at hl 1 rfl) ?_
  refine va_get (D := D) (ci := 0) (v := .ref (a 10)) (C := RX0) (T := TX0) (N := 8) hx hb htg ig_0 hown hK hP 1 (oh_wg (by decide) (sX_1 hT)) rfl 0 (by decide) (htg _ q_97) (fun _ h9 => h9) rfl dX0_become_1 ?_
  refine lv_iconst (v := 0) hx hb dX0_become_4 (by decide) ?_
  refine lv_aload_n hx hb dX0_become_5 rfl (lv_at hl 0 rfl) ?_
  refine va_get (D := D) (ci := 0) (v := .ref (a 17)) (C := RX0) (T := TX0) (N := 8) hx hb htg ig_0 hown hK hP 2 (oh_wg (by decide) (sX_2 hT)) rfl 0 (by decide) (htg _ q_97) (fun _ h9 => h9) rfl dX0_become_6 ?_
  refine lv_iconst (v := 0) hx hb dX0_become_9 (by decide) ?_
  refine lv_aload_n hx hb dX0_become_10 rfl (lv_at hl 0 rfl) ?_
  refine va_get (D := D) (ci := 0) (v := .ref (a 17)) (C := RX0) (T := TX0) (N := 8) hx hb htg ig_0 hown hK hP 2 (oh_wg (by decide) (sX_2 hT)) rfl 0 (by decide) (htg _ q_97) (fun _ h9 => h9) rfl dX0_become_11 ?_
  refine va_alen (v := 4) hx hb hK hP 17 0 (oh_wg (by decide) (sX_17 hT)) rfl (show Int32.ofNat 4 = 4 by decide) dX0_become_14 ?_
  refine th_copyi (T := TyX a E) (Rl := fr [(2, 3), (17, 24)] [] C) hx hb (by rw [hml]; exact hl.1.symm) hown (htg _ q_941) (htg _ q_347) (htg _ q_346) (htg _ q_74) hK hP hD hS 10 17 (by decide) (by decide) (sX_10 hT) (sX_17 hT) (by decide) (by decide) (by decide) (by decide) (by decide) (hT.up 17 (tA_cpy (tX_10 hT) (tX_17 hT))) (fr_st hF (by decide) (by decide)) (Nat.le_of_ble_eq_true rfl) (Nat.le_of_ble_eq_true rfl) dX0_become_15 (fun C_1 H locs e_2 hT hF hP hD hS => ?_)
  have t_3 := hT
  refine lv_aload_n hx hb dX0_become_18 rfl (lv_at hl 1 rfl) ?_
  refine va_get (D := D) (ci := 0) (v := .ref (a 11)) (C := RX0) (T := TX0) (N := 8) hx hb htg ig_0 hown hK hP 1 (oh_wg (by decide) (sX_1 hT)) rfl 1 (by decide) (htg _ q_101) (fun _ h9 => h9) rfl dX0_become_19 ?_
  refine lv_iconst (v := 0) hx hb dX0_become_22 (by decide) ?_
  refine lv_aload_n hx hb dX0_become_23 rfl (lv_at hl 0 rfl) ?_
  refine va_get (D := D) (ci := 0) (v := .ref (a 18)) (C := RX0) (T := TX0) (N := 8) hx hb htg ig_0 hown hK hP 2 (oh_wg (by decide) (sX_2 hT)) rfl 1 (by decide) (htg _ q_101) (fun _ h9 => h9) rfl dX0_become_24 ?_
  refine lv_iconst (v := 0) hx hb dX0_become_27 (by decide) ?_
  refine lv_aload_n hx hb dX0_become_28 rfl (lv_at hl 0 rfl) ?_
  refine va_get (D := D) (ci := 0) (v := .ref (a 18)) (C := RX0) (T := TX0) (N := 8) hx hb htg ig_0 hown hK hP 2 (oh_wg (by decide) (sX_2 hT)) rfl 1 (by decide) (htg _ q_101) (fun _ h9 => h9) rfl dX0_become_29 ?_
  refine va_alen (v := 168) hx hb hK hP 18 0 (oh_wg (by decide) (sX_18 hT)) rfl (show Int32.ofNat 168 = 168 by decide) dX0_become_32 ?_
  refine th_copyi (T := TyX a E) (Rl := fr [(2, 3), (17, 24)] [] C) hx hb (by rw [hml]; exact hl.1.symm) hown (htg _ q_941) (htg _ q_347) (htg _ q_346) (htg _ q_74) hK hP hD hS 11 18 (by decide) (by decide) (sX_11 hT) (sX_18 hT) (by decide) (by decide) (by decide) (by decide) (by decide) (hT.up 18 (tA_cpy (tX_11 hT) (tX_18 hT))) (fr_st hF (by decide) (by decide)) (Nat.le_of_ble_eq_true rfl) (Nat.le_of_ble_eq_true rfl) dX0_become_33 (fun C_4 H locs e_5 hT hF hP hD hS => ?_)
  have t_6 := hT
  refine lv_aload_n hx hb dX0_become_36 rfl (lv_at hl 1 rfl) ?_
  refine va_get (D := D) (ci := 0) (v := .ref (a 12)) (C := RX0) (T := TX0) (N := 8) hx hb htg ig_0 hown hK hP 1 (oh_wg (by decide) (sX_1 hT)) rfl 2 (by decide) (htg _ q_103) (fun _ h9 => h9) rfl dX0_become_37 ?_
  refine lv_iconst (v := 0) hx hb dX0_become_40 (by decide) ?_
  refine lv_aload_n hx hb dX0_become_41 rfl (lv_at hl 0 rfl) ?_
  refine va_get (D := D) (ci := 0) (v := .ref (a 19)) (C := RX0) (T := TX0) (N := 8) hx hb htg ig_0 hown hK hP 2 (oh_wg (by decide) (sX_2 hT)) rfl 2 (by decide) (htg _ q_103) (fun _ h9 => h9) rfl dX0_become_42 ?_
  refine lv_iconst (v := 0) hx hb dX0_become_45 (by decide) ?_
  refine lv_aload_n hx hb dX0_become_46 rfl (lv_at hl 0 rfl) ?_
  refine va_get (D := D) (ci := 0) (v := .ref (a 19)) (C := RX0) (T := TX0) (N := 8) hx hb htg ig_0 hown hK hP 2 (oh_wg (by decide) (sX_2 hT)) rfl 2 (by decide) (htg _ q_103) (fun _ h9 => h9) rfl dX0_become_47 ?_
  refine va_alen (v := 160) hx hb hK hP 19 0 (oh_wg (by decide) (sX_19 hT)) rfl (show Int32.ofNat 160 = 160 by decide) dX0_become_50 ?_
  refine th_copyi (T := TyX a E) (Rl := fr [(2, 3), (17, 24)] [] C) hx hb (by rw [hml]; exact hl.1.symm) hown (htg _ q_941) (htg _ q_347) (htg _ q_346) (htg _ q_74) hK hP hD hS 12 19 (by decide) (by decide) (sX_12 hT) (sX_19 hT) (by decide) (by decide) (by decide) (by decide) (by decide) (hT.up 19 (tA_cpy (tX_12 hT) (tX_19 hT))) (fr_st hF (by decide) (by decide)) (Nat.le_of_ble_eq_true rfl) (Nat.le_of_ble_eq_true rfl) dX0_become_51 (fun C_7 H locs e_8 hT hF hP hD hS => ?_)
  have t_9 := hT
  refine lv_aload_n hx hb dX0_become_54 rfl (lv_at hl 1 rfl) ?_
  refine va_get (D := D) (ci := 0) (v := .ref (a 13)) (C := RX0) (T := TX0) (N := 8) hx hb htg ig_0 hown hK hP 1 (oh_wg (by decide) (sX_1 hT)) rfl 3 (by decide) (htg _ q_104) (fun _ h9 => h9) rfl dX0_become_55 ?_
  refine lv_iconst (v := 0) hx hb dX0_become_58 (by decide) ?_
  refine lv_aload_n hx hb dX0_become_59 rfl (lv_at hl 0 rfl) ?_
  refine va_get (D := D) (ci := 0) (v := .ref (a 20)) (C := RX0) (T := TX0) (N := 8) hx hb htg ig_0 hown hK hP 2 (oh_wg (by decide) (sX_2 hT)) rfl 3 (by decide) (htg _ q_104) (fun _ h9 => h9) rfl dX0_become_60 ?_
  refine lv_iconst (v := 0) hx hb dX0_become_63 (by decide) ?_
  refine lv_aload_n hx hb dX0_become_64 rfl (lv_at hl 0 rfl) ?_
  refine va_get (D := D) (ci := 0) (v := .ref (a 20)) (C := RX0) (T := TX0) (N := 8) hx hb htg ig_0 hown hK hP 2 (oh_wg (by decide) (sX_2 hT)) rfl 3 (by decide) (htg _ q_104) (fun _ h9 => h9) rfl dX0_become_65 ?_
  refine va_alen (v := 15) hx hb hK hP 20 0 (oh_wg (by decide) (sX_20 hT)) rfl (show Int32.ofNat 15 = 15 by decide) dX0_become_68 ?_
  refine th_copyi (T := TyX a E) (Rl := fr [(2, 3), (17, 24)] [] C) hx hb (by rw [hml]; exact hl.1.symm) hown (htg _ q_941) (htg _ q_347) (htg _ q_346) (htg _ q_74) hK hP hD hS 13 20 (by decide) (by decide) (sX_13 hT) (sX_20 hT) (by decide) (by decide) (by decide) (by decide) (by decide) (hT.up 20 (tA_cpy (tX_13 hT) (tX_20 hT))) (fr_st hF (by decide) (by decide)) (Nat.le_of_ble_eq_true rfl) (Nat.le_of_ble_eq_true rfl) dX0_become_69 (fun C_10 H locs e_11 hT hF hP hD hS => ?_)
  have t_12 := hT
  refine lv_aload_n hx hb dX0_become_72 rfl (lv_at hl 1 rfl) ?_
  refine va_get (D := D) (ci := 0) (v := .ref (a 14)) (C := RX0) (T := TX0) (N := 8) hx hb htg ig_0 hown hK hP 1 (oh_wg (by decide) (sX_1 hT)) rfl 4 (by decide) (htg _ q_105) (fun _ h9 => h9) rfl dX0_become_73 ?_
  refine lv_iconst (v := 0) hx hb dX0_become_76 (by decide) ?_
  refine lv_aload_n hx hb dX0_become_77 rfl (lv_at hl 0 rfl) ?_
  refine va_get (D := D) (ci := 0) (v := .ref (a 21)) (C := RX0) (T := TX0) (N := 8) hx hb htg ig_0 hown hK hP 2 (oh_wg (by decide) (sX_2 hT)) rfl 4 (by decide) (htg _ q_105) (fun _ h9 => h9) rfl dX0_become_78 ?_
  refine lv_iconst (v := 0) hx hb dX0_become_81 (by decide) ?_
  refine lv_aload_n hx hb dX0_become_82 rfl (lv_at hl 0 rfl) ?_
  refine va_get (D := D) (ci := 0) (v := .ref (a 21)) (C := RX0) (T := TX0) (N := 8) hx hb htg ig_0 hown hK hP 2 (oh_wg (by decide) (sX_2 hT)) rfl 4 (by decide) (htg _ q_105) (fun _ h9 => h9) rfl dX0_become_83 ?_
  refine va_alen (v := 10) hx hb hK hP 21 0 (oh_wg (by decide) (sX_21 hT)) rfl (show Int32.ofNat 10 = 10 by decide) dX0_become_86 ?_
  refine th_copyi (T := TyX a E) (Rl := fr [(2, 3), (17, 24)] [] C) hx hb (by rw [hml]; exact hl.1.symm) hown (htg _ q_941) (htg _ q_347) (htg _ q_346) (htg _ q_74) hK hP hD hS 14 21 (by decide) (by decide) (sX_14 hT) (sX_21 hT) (by decide) (by decide) (by decide) (by decide) (by decide) (hT.up 21 (tA_cpy (tX_14 hT) (tX_21 hT))) (fr_st hF (by decide) (by decide)) (Nat.le_of_ble_eq_true rfl) (Nat.le_of_ble_eq_true rfl) dX0_become_87 (fun C_13 H locs e_14 hT hF hP hD hS => ?_)
  have t_15 := hT
  refine lv_aload_n hx hb dX0_become_90 rfl (lv_at hl 1 rfl) ?_
  refine va_get (D := D) (ci := 0) (v := .ref (a 15)) (C := RX0) (T := TX0) (N := 8) hx hb htg ig_0 hown hK hP 1 (oh_wg (by decide) (sX_1 hT)) rfl 5 (by decide) (htg _ q_106) (fun _ h9 => h9) rfl dX0_become_91 ?_
  refine lv_iconst (v := 0) hx hb dX0_become_94 (by decide) ?_
  refine lv_aload_n hx hb dX0_become_95 rfl (lv_at hl 0 rfl) ?_
  refine va_get (D := D) (ci := 0) (v := .ref (a 22)) (C := RX0) (T := TX0) (N := 8) hx hb htg ig_0 hown hK hP 2 (oh_wg (by decide) (sX_2 hT)) rfl 5 (by decide) (htg _ q_106) (fun _ h9 => h9) rfl dX0_become_96 ?_
  refine lv_iconst (v := 0) hx hb dX0_become_99 (by decide) ?_
  refine lv_aload_n hx hb dX0_become_100 rfl (lv_at hl 0 rfl) ?_
  refine va_get (D := D) (ci := 0) (v := .ref (a 22)) (C := RX0) (T := TX0) (N := 8) hx hb htg ig_0 hown hK hP 2 (oh_wg (by decide) (sX_2 hT)) rfl 5 (by decide) (htg _ q_106) (fun _ h9 => h9) rfl dX0_become_101 ?_
  refine va_alen (v := 3) hx hb hK hP 22 0 (oh_wg (by decide) (sX_22 hT)) rfl (show Int32.ofNat 3 = 3 by decide) dX0_become_104 ?_
  refine th_copyi (T := TyX a E) (Rl := fr [(2, 3), (17, 24)] [] C) hx hb (by rw [hml]; exact hl.1.symm) hown (htg _ q_941) (htg _ q_347) (htg _ q_346) (htg _ q_74) hK hP hD hS 15 22 (by decide) (by decide) (sX_15 hT) (sX_22 hT) (by decide) (by decide) (by decide) (by decide) (by decide) (hT.up 22 (tA_cpy (tX_15 hT) (tX_22 hT))) (fr_st hF (by decide) (by decide)) (Nat.le_of_ble_eq_true rfl) (Nat.le_of_ble_eq_true rfl) dX0_become_105 (fun C_16 H locs e_17 hT hF hP hD hS => ?_)
  have t_18 := hT
  refine lv_aload_n hx hb dX0_become_108 rfl (lv_at hl 1 rfl) ?_
  refine va_get (D := D) (ci := 0) (v := .ref (a 16)) (C := RX0) (T := TX0) (N := 8) hx hb htg ig_0 hown hK hP 1 (oh_wg (by decide) (sX_1 hT)) rfl 6 (by decide) (htg _ q_111) (fun _ h9 => h9) rfl dX0_become_109 ?_
  refine lv_iconst (v := 0) hx hb dX0_become_112 (by decide) ?_
  refine lv_aload_n hx hb dX0_become_113 rfl (lv_at hl 0 rfl) ?_
  refine va_get (D := D) (ci := 0) (v := .ref (a 23)) (C := RX0) (T := TX0) (N := 8) hx hb htg ig_0 hown hK hP 2 (oh_wg (by decide) (sX_2 hT)) rfl 6 (by decide) (htg _ q_111) (fun _ h9 => h9) rfl dX0_become_114 ?_
  refine lv_iconst (v := 0) hx hb dX0_become_117 (by decide) ?_
  refine lv_aload_n hx hb dX0_become_118 rfl (lv_at hl 0 rfl) ?_
  refine va_get (D := D) (ci := 0) (v := .ref (a 23)) (C := RX0) (T := TX0) (N := 8) hx hb htg ig_0 hown hK hP 2 (oh_wg (by decide) (sX_2 hT)) rfl 6 (by decide) (htg _ q_111) (fun _ h9 => h9) rfl dX0_become_119 ?_
  refine va_alen (v := 7) hx hb hK hP 23 0 (oh_wg (by decide) (sX_23 hT)) rfl (show Int32.ofNat 7 = 7 by decide) dX0_become_122 ?_
  refine th_copyi (T := TyX a E) (Rl := fr [(2, 3), (17, 24)] [] C) hx hb (by rw [hml]; exact hl.1.symm) hown (htg _ q_941) (htg _ q_347) (htg _ q_346) (htg _ q_74) hK hP hD hS 16 23 (by decide) (by decide) (sX_16 hT) (sX_23 hT) (by decide) (by decide) (by decide) (by decide) (by decide) (hT.up 23 (tA_cpy (tX_16 hT) (tX_23 hT))) (fr_st hF (by decide) (by decide)) (Nat.le_of_ble_eq_true rfl) (Nat.le_of_ble_eq_true rfl) dX0_become_123 (fun C_19 H locs e_20 hT hF hP hD hS => ?_)
  have t_21 := hT
  refine lv_aload_n hx hb dX0_become_126 rfl (lv_at hl 0 rfl) ?_
  refine lv_aload_n hx hb dX0_become_127 rfl (lv_at hl 1 rfl) ?_
  refine va_get (D := D) (ci := 0) (v := .int (gi (C 1) 7)) (C := RX0) (T := TX0) (N := 8) hx hb htg ig_0 hown hK hP 1 (oh_wg (by decide) (sX_1 hT)) rfl 7 (by decide) (htg _ q_113) (fun _ h9 => h9) (oh_fv (c := C_19 1) (j := 7) rfl (Eq.trans (congrArg (fun z => gi z 7) (th_un e_20 (by decide))) (Eq.trans (congrArg (fun z => gi z 7) (th_un e_17 (by decide))) (Eq.trans (congrArg (fun z => gi z 7) (th_un e_14 (by decide))) (Eq.trans (congrArg (fun z => gi z 7) (th_un e_11 (by decide))) (Eq.trans (congrArg (fun z => gi z 7) (th_un e_8 (by decide))) (Eq.trans (congrArg (fun z => gi z 7) (th_un e_5 (by decide))) (congrArg (fun z => gi z 7) (th_un e_2 (by decide)))))))))) dX0_become_128 ?_
  refine th_put (Tp := TyX a E) (Rl := fr [(2, 3), (17, 24)] [] C) (ci := 0) (v := .int (gi (C 1) 7)) (ty := .boolean) (CC := RX0) (T := TX0) (N := 8) hx hb htg ig_0 tyX0 tyX0_ok nmX0 hown hK hP hD hS 2 (by decide) (sX_2 hT) rfl 7 (by decide) (htg _ q_113) (fun _ h9 => h9) rfl (by decide +kernel) (oh_nb (oh_rgb2 (fX_1_7 hT0))) (oh_fz (oh_rgb2 (fX_1_7 hT0))) (Nat.le_of_ble_eq_true rfl) (hT.up 2 ⟨rfl, (oh_rgb (oh_rgb2 (fX_1_7 hT0)))⟩) (fr_st hF (by decide) (by decide)) dX0_become_131 (fun C_22 H locs e_23 hT hF hP hD hS => ?_)
  have t_24 := hT
  rw [hQ]
  exact W.vret hx hb hr (fun t ht hW => ⟨⟨C_22, rfl, ⟨hT, hF, trivial⟩, ⟨by rw [ht]; exact hP, hD⟩⟩, hS.F ht⟩) hS.2.2 dX0_become_134

set_option maxHeartbeats 4000000 in
set_option maxRecDepth 100000 in
theorem c_X6_image (l : Launch) (D : va_G) (E : Nat → ClassId) (G : Nat → Nat) (sz : Nat) (a : Nat → Nat) (C : Nat → va_E) (hT : TyX a E C) : Met l yX6_image (oh_w yX6_image cX6_image 1 (some .int)) ({ frames := 2, cells := 0, slots := 0, locals := 39 }) (oh_Pm D E G [.ref (a 0)] (oh_W 35 a C) sz) (va_Qi (fun r (u : Nat → va_E) => TyX a E u ∧ fr [(2, 3), (17, 24)] [2] C u ∧ ((r = 1) ∧ (gi (u 0) 2 = 1))) (oh_B D (va_A (oh_W 35 a C) sz) (fun u => oh_W 35 a u)) (va_A (oh_W 35 a C) sz)) 0 0 (va_A (oh_W 35 a C) sz) := by
  refine Met.ofW (cc := cX6_image) (maxL := 1) (ret := (some .int)) (by decide) rfl ?_
  intro p e s m args below meth c s₁ B hml hv
  obtain ⟨rfl, hsz, hP, hK, hD0, hG⟩ := hv
  have hx := B.exec
  have hb := B.bytes
  have hr := B.returns
  have hts := atoms_spec (ws := (oh_w yX6_image cX6_image 1 (some .int))) B.pre
  have htg : ∀ w ∈ oh_t, w.before _ s = true := fun w h => hts w (List.mem_cons_of_mem _ h)
  have hown : s.vm.findClass RX6 = some m.cls := findClass_of_methodNamed B.named
  have hlocks := B.notSynchronized
  have hT0 := hT
  subst hsz
  have hD := hD0.self (sz := s.heap.size)
  generalize hAe : va_A (oh_W 35 a C) s.heap.size = A at hD hG ⊢
  have hA : ∀ q : Nat, s.heap.size ≤ q → A q := fun q h => by rw [← hAe]; exact Or.inr h
  have hS : va_S A s.heap s.heap [] := va_S.rf
  have hF : fr [(2, 3), (17, 24)] [2] C C := fr_rf
  have hl := lv_entry ([.ref (a 0)]) (n := 1) (Nat.le_of_ble_eq_true rfl)
  rw [lg_entry_eq]
  generalize (lg_sl ([.ref (a 0)]) ++ List.replicate (1 - (lg_sl ([.ref (a 0)])).length) Slot.unset).toArray = ls at hl ⊢
  have hl : lv_has ls 1 [(0, .ref (a 0))] := hl
  refine oh_genQ (fun Q hQ => ?_)
  refine lv_aload_n hx hb dX6_image_0 rfl (lv_at hl 0 rfl) ?_
  refine va_get (D := D) (ci := 6) (v := .ref (a 2)) (C := RX6) (T := TX6) (N := 9) hx hb htg ig_6 hown hK hP 0 (oh_wg (by decide) (sX_0 hT)) rfl 1 (by decide) (htg _ q_259) (fun _ h9 => h9) rfl dX6_image_1 ?_
  refine lv_aload_n hx hb dX6_image_4 rfl (lv_at hl 0 rfl) ?_
  refine va_get (D := D) (ci := 6) (v := .ref (a 1)) (C := RX6) (T := TX6) (N := 9) hx hb htg ig_6 hown hK hP 0 (oh_wg (by decide) (sX_0 hT)) rfl 0 (by decide) (htg _ q_258) (fun _ h9 => h9) rfl dX6_image_5 ?_
  refine tm_Vv (As := [.ref (a 1)]) (rest := []) ⟨hx, hb, hml, hown, htg⟩ (c_X0_become_i l D E G _ a C hT) (cwV 1 htg (oh_gV q_937 q_938 q_939 q_67 q_940) rfl rfl rfl pdVX0_become ⟨Nat.le_of_ble_eq_true rfl, Nat.le_of_ble_eq_true rfl⟩) hK hP hD hG hS hA (va_recv hK hP (ci := 0) (q0 := 2) rfl (oh_wg (by decide) (sX_2 hT))) rfl hl.1 rfl (Nat.le_of_ble_eq_true rfl) dX6_image_8 ⟨Nat.le_of_ble_eq_true rfl, Nat.le_of_ble_eq_true rfl⟩ (fun C_2 H locs hq_3 hP hD hS => ?_)
  obtain ⟨hT, f_4, hq_3⟩ := hq_3
  have hF := fr_tr hF f_4 (by decide) (by decide)
  refine W.widen (k := 0) (n := 0) (Nat.le_refl _) (Nat.le_refl _) ?_
  have t_5 := hT
  refine lv_aload_n hx hb dX6_image_11 rfl (lv_at hl 0 rfl) ?_
  refine lv_iconst (v := 1) hx hb dX6_image_12 (by decide) ?_
  refine th_put (Tp := TyX a E) (Rl := fr [(2, 3), (17, 24)] [2] C) (ci := 6) (v := .int 1) (ty := .boolean) (CC := RX6) (T := TX6) (N := 9) hx hb htg ig_6 tyX6 tyX6_ok nmX6 hown hK hP hD hS 0 (by decide) (sX_0 hT) rfl 2 (by decide) (htg _ q_260) (fun _ h9 => h9) rfl (by decide +kernel) (by decide) (by decide) (Nat.le_of_ble_eq_true rfl) (hT.up 0 ⟨rfl, (rg_w (rg_c (v := 1) (lo := 1) (hi := 1) (by decide)) (by decide))⟩) (fr_fd hF (sX_0 hT) (by decide)) dX6_image_13 (fun C_6 H locs e_7 hT hF hP hD hS => ?_)
  have t_8 := hT
  refine lv_iconst (v := 1) hx hb dX6_image_16 (by decide) ?_
  rw [hQ]
  exact W.iret (v := 1) hx hb hr (fun t ht hW => ⟨⟨1, C_6, rfl, ⟨hT, hF, ⟨rfl, (show gi (C_6 0) 2 = (1 : Int32) by rw [e_7]; rfl)⟩⟩, ⟨by rw [ht]; exact hP, hD⟩⟩, hS.F ht⟩) hS.2.2 dX6_image_17

set_option maxHeartbeats 4000000 in
set_option maxRecDepth 100000 in
theorem c_X6_back (l : Launch) (D : va_G) (E : Nat → ClassId) (G : Nat → Nat) (sz : Nat) (a : Nat → Nat) (C : Nat → va_E) (hT : TyX a E C) : Met l yX6_back (oh_w yX6_back cX6_back 1 (some .int)) ({ frames := 2, cells := 0, slots := 0, locals := 44 }) (oh_Pm D E G [.ref (a 0)] (oh_W 35 a C) sz) (va_Qi (fun r (u : Nat → va_E) => TyX a E u ∧ fr [(1, 2), (7, 8), (10, 17), (29, 31)] [] C u ∧ (r = (if gi (C 0) 2 = 0 then (-5) else 1 : Int32))) (oh_B D (va_A (oh_W 35 a C) sz) (fun u => oh_W 35 a u)) (va_A (oh_W 35 a C) sz)) 0 0 (va_A (oh_W 35 a C) sz) := by
  refine Met.ofW (cc := cX6_back) (maxL := 1) (ret := (some .int)) (by decide) rfl ?_
  intro p e s m args below meth c s₁ B hml hv
  obtain ⟨rfl, hsz, hP, hK, hD0, hG⟩ := hv
  have hx := B.exec
  have hb := B.bytes
  have hr := B.returns
  have hts := atoms_spec (ws := (oh_w yX6_back cX6_back 1 (some .int))) B.pre
  have htg : ∀ w ∈ oh_t, w.before _ s = true := fun w h => hts w (List.mem_cons_of_mem _ h)
  have hown : s.vm.findClass RX6 = some m.cls := findClass_of_methodNamed B.named
  have hlocks := B.notSynchronized
  have hT0 := hT
  subst hsz
  have hD := hD0.self (sz := s.heap.size)
  generalize hAe : va_A (oh_W 35 a C) s.heap.size = A at hD hG ⊢
  have hA : ∀ q : Nat, s.heap.size ≤ q → A q := fun q h => by rw [← hAe]; exact Or.inr h
  have hS : va_S A s.heap s.heap [] := va_S.rf
  have hF : fr [(1, 2), (7, 8), (10, 17), (29, 31)] [] C C := fr_rf
  have hl := lv_entry ([.ref (a 0)]) (n := 1) (Nat.le_of_ble_eq_true rfl)
  rw [lg_entry_eq]
  generalize (lg_sl ([.ref (a 0)]) ++ List.replicate (1 - (lg_sl ([.ref (a 0)])).length) Slot.unset).toArray = ls at hl ⊢
  have hl : lv_has ls 1 [(0, .ref (a 0))] := hl
  refine oh_genQ (fun Q hQ => ?_)
  refine lv_aload_n hx hb dX6_back_0 rfl (lv_at hl 0 rfl) ?_
  refine va_get (D := D) (ci := 6) (v := .int (gi (C 0) 2)) (C := RX6) (T := TX6) (N := 9) hx hb htg ig_6 hown hK hP 0 (oh_wg (by decide) (sX_0 hT)) rfl 2 (by decide) (htg _ q_260) (fun _ h9 => h9) rfl dX6_back_1 ?_
  refine lv_if_ne (tgt := 14) hx hb dX6_back_4 (by decide) (fun (c_1 : ¬ ((gi (C 0) 2) = 0)) => ?_) (fun (c_1 : (gi (C 0) 2) = 0) => ?_)
  · refine lv_aload_n hx hb dX6_back_14 rfl (lv_at hl 0 rfl) ?_
    refine va_get (D := D) (ci := 6) (v := .ref (a 1)) (C := RX6) (T := TX6) (N := 9) hx hb htg ig_6 hown hK hP 0 (oh_wg (by decide) (sX_0 hT)) rfl 0 (by decide) (htg _ q_258) (fun _ h9 => h9) rfl dX6_back_15 ?_
    refine lv_aload_n hx hb dX6_back_18 rfl (lv_at hl 0 rfl) ?_
    refine va_get (D := D) (ci := 6) (v := .ref (a 2)) (C := RX6) (T := TX6) (N := 9) hx hb htg ig_6 hown hK hP 0 (oh_wg (by decide) (sX_0 hT)) rfl 1 (by decide) (htg _ q_259) (fun _ h9 => h9) rfl dX6_back_19 ?_
    refine tm_Vv (As := [.ref (a 2)]) (rest := []) ⟨hx, hb, hml, hown, htg⟩ (c_X0_become_b l D E G _ a C hT) (cwV 1 htg (oh_gV q_937 q_938 q_939 q_67 q_940) rfl rfl rfl pdVX0_become ⟨Nat.le_of_ble_eq_true rfl, Nat.le_of_ble_eq_true rfl⟩) hK hP hD hG hS hA (va_recv hK hP (ci := 0) (q0 := 1) rfl (oh_wg (by decide) (sX_1 hT))) rfl hl.1 rfl (Nat.le_of_ble_eq_true rfl) dX6_back_22 ⟨Nat.le_of_ble_eq_true rfl, Nat.le_of_ble_eq_true rfl⟩ (fun C_3 H locs hq_4 hP hD hS => ?_)
    obtain ⟨hT, f_5, hq_4⟩ := hq_4
    have hF := fr_tr hF f_5 (by decide) (by decide)
    refine W.widen (k := 0) (n := 0) (Nat.le_refl _) (Nat.le_refl _) ?_
    have t_6 := hT
    refine lv_aload_n hx hb dX6_back_25 rfl (lv_at hl 0 rfl) ?_
    refine va_get (D := D) (ci := 6) (v := .ref (a 4)) (C := RX6) (T := TX6) (N := 9) hx hb htg ig_6 hown hK hP 0 (oh_wg (by decide) (sX_0 hT)) rfl 4 (by decide) (htg _ q_262) (fun _ h9 => h9) rfl dX6_back_26 ?_
    refine lv_aload_n hx hb dX6_back_29 rfl (lv_at hl 0 rfl) ?_
    refine va_get (D := D) (ci := 6) (v := .ref (a 1)) (C := RX6) (T := TX6) (N := 9) hx hb htg ig_6 hown hK hP 0 (oh_wg (by decide) (sX_0 hT)) rfl 0 (by decide) (htg _ q_258) (fun _ h9 => h9) rfl dX6_back_30 ?_
    refine va_get (D := D) (ci := 0) (v := .ref (a 10)) (C := RX0) (T := TX0) (N := 8) hx hb htg ig_0 hown hK hP 1 (oh_wg (by decide) (sX_1 hT)) rfl 0 (by decide) (htg _ q_100) (fun _ h9 => h9) rfl dX6_back_33 ?_
    refine lv_iconst (v := 1) hx hb dX6_back_36 (by decide) ?_
    refine th_iald hx hb hK hP 10 (by decide) (sX_10 hT) (rg_in (rg_c (v := 1) (lo := 1) (hi := 1) (by decide)) (by decide)) dX6_back_37 ?_
    refine tm_Vv (As := [.int (ga (C_3 10) ((1 : Int32)).toNatClampNeg)]) (rest := []) ⟨hx, hb, hml, hown, htg⟩ (c_X3_dropBridgesFrom l D E G _ a C_3 hT (ga (C_3 10) ((1 : Int32)).toNatClampNeg)) (cwV 1 htg (oh_gV q_946 q_947 q_948 q_70 q_949) rfl rfl rfl pdVX3_dropBridgesFrom ⟨Nat.le_of_ble_eq_true rfl, Nat.le_of_ble_eq_true rfl⟩) hK hP hD hG hS hA (va_recv hK hP (ci := 3) (q0 := 4) rfl (oh_wg (by decide) (sX_4 hT))) rfl hl.1 rfl (Nat.le_of_ble_eq_true rfl) dX6_back_38 ⟨Nat.le_of_ble_eq_true rfl, Nat.le_of_ble_eq_true rfl⟩ (fun C_8 H locs hq_9 hP hD hS => ?_)
    obtain ⟨hT, f_10, hq_9⟩ := hq_9
    have hF := fr_tr hF f_10 (by decide) (by decide)
    refine W.widen (k := 0) (n := 0) (Nat.le_refl _) (Nat.le_refl _) ?_
    have t_11 := hT
    refine lv_iconst (v := 1) hx hb dX6_back_41 (by decide) ?_
    rw [hQ]
    exact W.iret (v := 1) hx hb hr (fun t ht hW => ⟨⟨1, C_8, rfl, ⟨hT, hF, (if_neg c_1).symm⟩, ⟨by rw [ht]; exact hP, hD⟩⟩, hS.F ht⟩) hS.2.2 dX6_back_42
  · refine lv_aload_n hx hb dX6_back_7 rfl (lv_at hl 0 rfl) ?_
    refine lv_bipush (v := (-5)) hx hb dX6_back_8 (by decide) ?_
    refine tm_V (As := [.int (-5)]) (rest := []) ⟨hx, hb, hml, hown, htg⟩ (c_X6_refuse l D E G _ a C hT ((-5) : Int32)) (cwV 1 htg (oh_gV q_296 q_298 q_0 q_66 q_299) rfl rfl rfl pdVX6_refuse ⟨Nat.le_of_ble_eq_true rfl, Nat.le_of_ble_eq_true rfl⟩) hK hP hD hG hS hA (va_recv hK hP (ci := 6) (q0 := 0) rfl (oh_wg (by decide) (sX_0 hT))) rfl hl.1 rfl (Nat.le_of_ble_eq_true rfl) dX6_back_10 ⟨Nat.le_of_ble_eq_true rfl, Nat.le_of_ble_eq_true rfl⟩ (fun r_12 C_13 H locs hq_14 hP hD hS => ?_)
    obtain ⟨hT, f_15, hq_14⟩ := hq_14
    have hF := fr_tr hF f_15 (by decide) (by decide)
    refine W.widen (k := 0) (n := 0) (Nat.le_refl _) (Nat.le_refl _) ?_
    have t_16 := hT
    rw [hQ]
    exact W.iret (v := r_12) hx hb hr (fun t ht hW => ⟨⟨r_12, C_13, rfl, ⟨hT, hF, (Eq.trans hq_14 (if_pos c_1).symm)⟩, ⟨by rw [ht]; exact hP, hD⟩⟩, hS.F ht⟩) hS.2.2 dX6_back_13

set_option maxHeartbeats 4000000 in
set_option maxRecDepth 100000 in
theorem c_X6_status (l : Launch) (D : va_G) (E : Nat → ClassId) (G : Nat → Nat) (a : Nat → Nat) (C : Nat → va_E) (hT : TyX a E C) (x1 : Int32) : Met l yX6_status (oh_w yX6_status cX6_status 2 (some .int)) ({ frames := 2, cells := 0, slots := 0, locals := 45 }) (oh_Pp D E G [.ref (a 0), .int x1] (oh_W 35 a C)) (vp_Si (fun r => True)) 0 0 (fun _ => False) := by
  refine Met.ofW (cc := cX6_status) (maxL := 2) (ret := (some .int)) (by decide) rfl ?_
  intro p e s m args below meth c s₁ B hml hv
  obtain ⟨rfl, hP, hK, hG⟩ := hv
  have hx := B.exec
  have hb := B.bytes
  have hr := B.returns
  have hts := atoms_spec (ws := (oh_w yX6_status cX6_status 2 (some .int))) B.pre
  have htg : ∀ w ∈ oh_t, w.before _ s = true := fun w h => hts w (List.mem_cons_of_mem _ h)
  have hown : s.vm.findClass RX6 = some m.cls := findClass_of_methodNamed B.named
  have hlocks := B.notSynchronized
  have hT0 := hT
  have hS : va_S (fun _ => False) s.heap s.heap [] := va_S.rf
  have hl := lv_entry ([.ref (a 0), .int x1]) (n := 2) (Nat.le_of_ble_eq_true rfl)
  rw [lg_entry_eq]
  generalize (lg_sl ([.ref (a 0), .int x1]) ++ List.replicate (2 - (lg_sl ([.ref (a 0), .int x1])).length) Slot.unset).toArray = ls at hl ⊢
  have hl : lv_has ls 2 [(0, .ref (a 0)), (1, .int x1)] := hl
  refine oh_genQ (fun Q hQ => ?_)
  refine lv_iload_n hx hb dX6_status_0 rfl (lv_at hl 1 rfl) ?_
  refine lv_iconst (v := 0) hx hb dX6_status_1 (by decide) ?_
  refine lv_iconst (v := 3) hx hb dX6_status_2 (by decide) ?_
  refine tq_S (As := [.int x1, .int 0, .int 3]) (rest := []) (ws := []) ⟨hx, hb, hml, hown, htg⟩ (c_X6_within l D E G x1 (0 : Int32) (3 : Int32)) (va_cwS 3 htg (oh_gS q_293 q_294 q_66 q_295) rfl rfl rfl pdX6_within ⟨Nat.le_of_ble_eq_true rfl, Nat.le_of_ble_eq_true rfl⟩) hK va_nil hG hS rfl hl.1 rfl (Nat.le_of_ble_eq_true rfl) dX6_status_3 ⟨Nat.le_of_ble_eq_true rfl, Nat.le_of_ble_eq_true rfl⟩ (fun r_1 hq_2 => ?_)
  refine lv_if_eq (tgt := 19) hx hb dX6_status_6 (by decide) (fun (c_3 : r_1 = 0) => ?_) (fun (c_3 : ¬ (r_1 = 0)) => ?_)
  · have u_4 := hq_2.2.2 c_3
    refine lv_iload_n hx hb dX6_status_19 rfl (lv_at hl 1 rfl) ?_
    refine lv_bipush (v := 12) hx hb dX6_status_20 (by decide) ?_
    refine lv_bipush (v := 16) hx hb dX6_status_22 (by decide) ?_
    refine tq_S (As := [.int x1, .int 12, .int 16]) (rest := []) (ws := []) ⟨hx, hb, hml, hown, htg⟩ (c_X6_within l D E G x1 (12 : Int32) (16 : Int32)) (va_cwS 3 htg (oh_gS q_293 q_294 q_66 q_295) rfl rfl rfl pdX6_within ⟨Nat.le_of_ble_eq_true rfl, Nat.le_of_ble_eq_true rfl⟩) hK va_nil hG hS rfl hl.1 rfl (Nat.le_of_ble_eq_true rfl) dX6_status_24 ⟨Nat.le_of_ble_eq_true rfl, Nat.le_of_ble_eq_true rfl⟩ (fun r_5 hq_6 => ?_)
    refine lv_if_eq (tgt := 40) hx hb dX6_status_27 (by decide) (fun (c_7 : r_5 = 0) => ?_) (fun (c_7 : ¬ (r_5 = 0)) => ?_)
    · have u_8 := hq_6.2.2 c_7
      refine lv_iload_n hx hb dX6_status_40 rfl (lv_at hl 1 rfl) ?_
      by_cases c_9 : x1 = 4
      · refine lv_tableIn (off := 31) (tgt := 72) hx hb dX6_status_41 (by rw [c_9]; decide) (by rw [c_9]; decide) (by rw [c_9]; decide) (by decide) ?_
        refine lv_aload_n hx hb dX6_status_72 rfl (lv_at hl 0 rfl) ?_
        refine va_get (D := D) (ci := 6) (v := .ref (a 5)) (C := RX6) (T := TX6) (N := 9) hx hb htg ig_6 hown hK hP 0 (oh_wg (by decide) (sX_0 hT)) rfl 5 (by decide) (htg _ q_263) (fun _ h9 => h9) rfl dX6_status_73 ?_
        refine va_get (D := D) (ci := 4) (v := .int (gi (C 5) 1)) (C := RX4) (T := TX4) (N := 6) hx hb htg ig_4 hown hK hP 5 (oh_wg (by decide) (sX_5 hT)) rfl 1 (by decide) (htg _ q_219) (fun _ h9 => h9) rfl dX6_status_76 ?_
        rw [hQ]
        exact W.iret (v := gi (C 5) 1) hx hb hr (fun t ht hW => ⟨gi (C 5) 1, rfl, trivial, ht⟩) (fun q h => by cases h) dX6_status_79
      · by_cases c_10 : x1 = 5
        · refine lv_tableIn (off := 39) (tgt := 80) hx hb dX6_status_41 (by rw [c_10]; decide) (by rw [c_10]; decide) (by rw [c_10]; decide) (by decide) ?_
          refine lv_aload_n hx hb dX6_status_80 rfl (lv_at hl 0 rfl) ?_
          refine va_get (D := D) (ci := 6) (v := .ref (a 4)) (C := RX6) (T := TX6) (N := 9) hx hb htg ig_6 hown hK hP 0 (oh_wg (by decide) (sX_0 hT)) rfl 4 (by decide) (htg _ q_262) (fun _ h9 => h9) rfl dX6_status_81 ?_
          refine tq_V (As := []) (rest := []) (ws := (oh_W 35 a C)) ⟨hx, hb, hml, hown, htg⟩ (c_X3_countHeld l D E G a C hT) (cwV 0 htg (oh_gV q_955 q_956 q_957 q_70 q_958) rfl rfl rfl pdVX3_countHeld ⟨Nat.le_of_ble_eq_true rfl, Nat.le_of_ble_eq_true rfl⟩) hK hP hG hS (va_recv hK hP (ci := 3) (q0 := 4) rfl (oh_wg (by decide) (sX_4 hT))) rfl hl.1 rfl (Nat.le_of_ble_eq_true rfl) dX6_status_84 ⟨Nat.le_of_ble_eq_true rfl, Nat.le_of_ble_eq_true rfl⟩ (fun r_11 hq_12 => ?_)
          rw [hQ]
          exact W.iret (v := r_11) hx hb hr (fun t ht hW => ⟨r_11, rfl, trivial, ht⟩) (fun q h => by cases h) dX6_status_87
        · by_cases c_13 : x1 = 6
          · refine lv_tableIn (off := 47) (tgt := 88) hx hb dX6_status_41 (by rw [c_13]; decide) (by rw [c_13]; decide) (by rw [c_13]; decide) (by decide) ?_
            refine lv_aload_n hx hb dX6_status_88 rfl (lv_at hl 0 rfl) ?_
            refine va_get (D := D) (ci := 6) (v := .ref (a 1)) (C := RX6) (T := TX6) (N := 9) hx hb htg ig_6 hown hK hP 0 (oh_wg (by decide) (sX_0 hT)) rfl 0 (by decide) (htg _ q_258) (fun _ h9 => h9) rfl dX6_status_89 ?_
            refine lv_bipush (v := 7) hx hb dX6_status_92 (by decide) ?_
            refine tq_V (As := [.int 7]) (rest := []) (ws := (oh_W 35 a C)) ⟨hx, hb, hml, hown, htg⟩ (c_X0_countBridges l D E G a C hT (7 : Int32) (rg_w (rg_c (v := 7) (lo := 7) (hi := 7) (by decide)) (by decide))) (cwV 1 htg (oh_gV q_959 q_960 q_961 q_67 q_962) rfl rfl rfl pdVX0_countBridges ⟨Nat.le_of_ble_eq_true rfl, Nat.le_of_ble_eq_true rfl⟩) hK hP hG hS (va_recv hK hP (ci := 0) (q0 := 1) rfl (oh_wg (by decide) (sX_1 hT))) rfl hl.1 rfl (Nat.le_of_ble_eq_true rfl) dX6_status_94 ⟨Nat.le_of_ble_eq_true rfl, Nat.le_of_ble_eq_true rfl⟩ (fun r_14 hq_15 => ?_)
            rw [hQ]
            exact W.iret (v := r_14) hx hb hr (fun t ht hW => ⟨r_14, rfl, trivial, ht⟩) (fun q h => by cases h) dX6_status_97
          · by_cases c_16 : x1 = 7
            · refine lv_tableIn (off := 57) (tgt := 98) hx hb dX6_status_41 (by rw [c_16]; decide) (by rw [c_16]; decide) (by rw [c_16]; decide) (by decide) ?_
              refine lv_aload_n hx hb dX6_status_98 rfl (lv_at hl 0 rfl) ?_
              refine va_get (D := D) (ci := 6) (v := .ref (a 1)) (C := RX6) (T := TX6) (N := 9) hx hb htg ig_6 hown hK hP 0 (oh_wg (by decide) (sX_0 hT)) rfl 0 (by decide) (htg _ q_258) (fun _ h9 => h9) rfl dX6_status_99 ?_
              refine lv_bipush (v := 8) hx hb dX6_status_102 (by decide) ?_
              refine tq_V (As := [.int 8]) (rest := []) (ws := (oh_W 35 a C)) ⟨hx, hb, hml, hown, htg⟩ (c_X0_countBridges l D E G a C hT (8 : Int32) (rg_w (rg_c (v := 8) (lo := 8) (hi := 8) (by decide)) (by decide))) (cwV 1 htg (oh_gV q_959 q_960 q_961 q_67 q_962) rfl rfl rfl pdVX0_countBridges ⟨Nat.le_of_ble_eq_true rfl, Nat.le_of_ble_eq_true rfl⟩) hK hP hG hS (va_recv hK hP (ci := 0) (q0 := 1) rfl (oh_wg (by decide) (sX_1 hT))) rfl hl.1 rfl (Nat.le_of_ble_eq_true rfl) dX6_status_104 ⟨Nat.le_of_ble_eq_true rfl, Nat.le_of_ble_eq_true rfl⟩ (fun r_17 hq_18 => ?_)
              rw [hQ]
              exact W.iret (v := r_17) hx hb hr (fun t ht hW => ⟨r_17, rfl, trivial, ht⟩) (fun q h => by cases h) dX6_status_107
            · refine lv_tableOut (tgt := 108) hx hb dX6_status_41 (by have h9 := And.intro (oh_ne c_9 (k := 4) (by decide)) (And.intro (oh_ne c_10 (k := 5) (by decide)) (And.intro (oh_ne c_13 (k := 6) (by decide)) (And.intro (oh_ne c_16 (k := 7) (by decide)) trivial))); omega) (by decide) ?_
              refine lv_iconst (v := (-1)) hx hb dX6_status_108 (by decide) ?_
              rw [hQ]
              exact W.iret (v := (-1)) hx hb hr (fun t ht hW => ⟨(-1), rfl, trivial, ht⟩) (fun q h => by cases h) dX6_status_109
    · have u_19 := hq_6.2.1 c_7
      refine lv_aload_n hx hb dX6_status_30 rfl (lv_at hl 0 rfl) ?_
      refine va_get (D := D) (ci := 6) (v := .ref (a 7)) (C := RX6) (T := TX6) (N := 9) hx hb htg ig_6 hown hK hP 0 (oh_wg (by decide) (sX_0 hT)) rfl 7 (by decide) (htg _ q_265) (fun _ h9 => h9) rfl dX6_status_31 ?_
      refine lv_iload_n hx hb dX6_status_34 rfl (lv_at hl 1 rfl) ?_
      refine lv_bipush (v := 12) hx hb dX6_status_35 (by decide) ?_
      refine lv_isub hx hb dX6_status_37 ?_
      have n_20 : vp_in (x1 - 12) 5 := (rg_in (rg_sub (lo := 0) (hi := 4) (rn_leu u_19.2 (rn_lel u_19.1 (rg_c (v := 12) (lo := 12) (hi := 12) (by decide)) (rg_any _)) (rg_c (v := 16) (lo := 16) (hi := 16) (by decide))) (rg_c (v := 12) (lo := 12) (hi := 12) (by decide)) (by decide)) (by decide))
      refine th_iald hx hb hK hP 7 (by decide) (sX_7 hT) n_20 dX6_status_38 ?_
      rw [hQ]
      exact W.iret (v := ga (C 7) (x1 - 12).toNatClampNeg) hx hb hr (fun t ht hW => ⟨ga (C 7) (x1 - 12).toNatClampNeg, rfl, trivial, ht⟩) (fun q h => by cases h) dX6_status_39
  · have u_21 := hq_2.2.1 c_3
    refine lv_aload_n hx hb dX6_status_9 rfl (lv_at hl 0 rfl) ?_
    refine va_get (D := D) (ci := 6) (v := .ref (a 1)) (C := RX6) (T := TX6) (N := 9) hx hb htg ig_6 hown hK hP 0 (oh_wg (by decide) (sX_0 hT)) rfl 0 (by decide) (htg _ q_258) (fun _ h9 => h9) rfl dX6_status_10 ?_
    refine va_get (D := D) (ci := 0) (v := .ref (a 10)) (C := RX0) (T := TX0) (N := 8) hx hb htg ig_0 hown hK hP 1 (oh_wg (by decide) (sX_1 hT)) rfl 0 (by decide) (htg _ q_100) (fun _ h9 => h9) rfl dX6_status_13 ?_
    refine lv_iload_n hx hb dX6_status_16 rfl (lv_at hl 1 rfl) ?_
    have n_22 : vp_in x1 4 := (rg_in (rn_leu u_21.2 (rn_lel u_21.1 (rg_c (v := 0) (lo := 0) (hi := 0) (by decide)) (rg_any _)) (rg_c (v := 3) (lo := 3) (hi := 3) (by decide))) (by decide))
    refine th_iald hx hb hK hP 10 (by decide) (sX_10 hT) n_22 dX6_status_17 ?_
    rw [hQ]
    exact W.iret (v := ga (C 10) (x1).toNatClampNeg) hx hb hr (fun t ht hW => ⟨ga (C 10) (x1).toNatClampNeg, rfl, trivial, ht⟩) (fun q h => by cases h) dX6_status_18
