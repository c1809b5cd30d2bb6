set_option maxHeartbeats 4000000 in
set_option maxRecDepth 100000 in
theorem c_X6_cheapest (l : Launch) (D : va_G) (E : Nat → ClassId) (G : Nat → Nat) (sz : Nat) (a : Nat → Nat) (C : Nat → va_E) (hT : TyX a E C) (x1 : Int32) (x2 : Int32) (x3 : Int32) (x4 : Int32) : Met l yX6_cheapest (oh_w yX6_cheapest cX6_cheapest 5 (some .int)) ({ frames := 5, cells := 0, slots := 0, locals := 125 }) (oh_Pm D E G [.ref (a 0), .int x1, .int x2, .int x3, .int x4] (oh_W 35 a C) sz) (va_Qi (fun r (u : Nat → va_E) => TyX a E u ∧ fr [(7, 8), (9, 10), (24, 28)] [] C u ∧ True) (oh_B D (va_A (oh_W 35 a C) sz) (fun u => oh_W 35 a u)) (va_A (oh_W 35 a C) sz)) 0 0 (va_A (oh_W 35 a C) sz) := by
  refine Met.ofW (cc := cX6_cheapest) (maxL := 5) (ret := (some .int)) (by decide) rfl ?_
  intro p e s m args below meth c s₁ B hml hv
  obtain ⟨rfl, hsz, hP, hK, hD0, hG⟩ := hv
  have hx := B.exec
  have hb := B.bytes
  have hr := B.returns
  have hts := atoms_spec (ws := (oh_w yX6_cheapest cX6_cheapest 5 (some .int))) B.pre
  have htg : ∀ w ∈ oh_t, w.before _ s = true := fun w h => hts w (List.mem_cons_of_mem _ h)
  have hown : s.vm.findClass RX6 = some m.cls := findClass_of_methodNamed B.named
  have hlocks := B.notSynchronized
  have hT0 := hT
  subst hsz
  have hD := hD0.self (sz := s.heap.size)
  generalize hAe : va_A (oh_W 35 a C) s.heap.size = A at hD hG ⊢
  have hA : ∀ q : Nat, s.heap.size ≤ q → A q := fun q h => by rw [← hAe]; exact Or.inr h
  have hS : va_S A s.heap s.heap [] := va_S.rf
  have hF : fr [(7, 8), (9, 10), (24, 28)] [] C C := fr_rf
  have hl := lv_entry ([.ref (a 0), .int x1, .int x2, .int x3, .int x4]) (n := 5) (Nat.le_of_ble_eq_true rfl)
  rw [lg_entry_eq]
  generalize (lg_sl ([.ref (a 0), .int x1, .int x2, .int x3, .int x4]) ++ List.replicate (5 - (lg_sl ([.ref (a 0), .int x1, .int x2, .int x3, .int x4])).length) Slot.unset).toArray = ls at hl ⊢
  have hl : lv_has ls 5 [(0, .ref (a 0)), (1, .int x1), (2, .int x2), (3, .int x3), (4, .int x4)] := hl
  refine oh_genQ (fun Q hQ => ?_)
  refine lv_aload_n hx hb dX6_cheapest_0 rfl (lv_at hl 0 rfl) ?_
  refine lv_iload_n hx hb dX6_cheapest_1 rfl (lv_at hl 1 rfl) ?_
  refine lv_iload_n hx hb dX6_cheapest_2 rfl (lv_at hl 2 rfl) ?_
  refine lv_iload_n hx hb dX6_cheapest_3 rfl (lv_at hl 3 rfl) ?_
  refine lv_iload hx hb dX6_cheapest_4 (lv_at hl 4 rfl) ?_
  refine tq_V (As := [.int x1, .int x2, .int x3, .int x4]) (rest := []) (ws := (oh_W 35 a C)) ⟨hx, hb, hml, hown, htg⟩ (c_X6_isJourney l D E G a C hT x1 x2 x3 x4) (cwV 4 htg (oh_gV q_776 q_778 q_17 q_66 q_779) rfl rfl rfl pdVX6_isJourney ⟨Nat.le_of_ble_eq_true rfl, Nat.le_of_ble_eq_true rfl⟩) hK hP hG hS (va_recv hK hP (ci := 6) (q0 := 0) rfl (oh_wg (by decide) (sX_0 hT))) rfl hl.1 rfl (Nat.le_of_ble_eq_true rfl) dX6_cheapest_6 ⟨Nat.le_of_ble_eq_true rfl, Nat.le_of_ble_eq_true rfl⟩ (fun r_1 hq_2 => ?_)
  refine lv_if_ne (tgt := 19) hx hb dX6_cheapest_9 (by decide) (fun (c_3 : ¬ (r_1 = 0)) => ?_) (fun (c_3 : r_1 = 0) => ?_)
  · have u_4 := hq_2.2 c_3
    refine lv_aload_n hx hb dX6_cheapest_19 rfl (lv_at hl 0 rfl) ?_
    refine lv_aload_n hx hb dX6_cheapest_20 rfl (lv_at hl 0 rfl) ?_
    refine va_get (D := D) (ci := 6) (v := .ref (a 3)) (C := RX6) (T := TX6) (N := 9) hx hb htg ig_6 hown hK hP 0 (oh_wg (by decide) (sX_0 hT)) rfl 3 (by decide) (htg _ q_261) (fun _ h9 => h9) rfl dX6_cheapest_21 ?_
    refine lv_iload_n hx hb dX6_cheapest_24 rfl (lv_at hl 1 rfl) ?_
    refine lv_iload_n hx hb dX6_cheapest_25 rfl (lv_at hl 2 rfl) ?_
    refine lv_iload_n hx hb dX6_cheapest_26 rfl (lv_at hl 3 rfl) ?_
    refine lv_iload hx hb dX6_cheapest_27 (lv_at hl 4 rfl) ?_
    refine lv_iconst (v := 1) hx hb dX6_cheapest_29 (by decide) ?_
    refine tm_V (As := [.int x1, .int x2, .int x3, .int x4, .int 1]) (rest := [.ref (a 0)]) ⟨hx, hb, hml, hown, htg⟩ (c_X5_leastCoin l D E G _ a C hT x1 x2 x3 x4 (1 : Int32) (rg_w u_4.1 (by decide)) (rg_w u_4.2.1 (by decide)) (rg_w u_4.2.2 (by decide))) (cwV 5 htg (oh_gV q_780 q_781 q_782 q_68 q_783) rfl rfl rfl pdVX5_leastCoin ⟨Nat.le_of_ble_eq_true rfl, Nat.le_of_ble_eq_true rfl⟩) hK hP hD hG hS hA (va_recv hK hP (ci := 5) (q0 := 3) rfl (oh_wg (by decide) (sX_3 hT))) rfl hl.1 rfl (Nat.le_of_ble_eq_true rfl) dX6_cheapest_30 ⟨Nat.le_of_ble_eq_true rfl, Nat.le_of_ble_eq_true rfl⟩ (fun r_5 C_6 H locs hq_7 hP hD hS => ?_)
    obtain ⟨hT, f_8, hq_7⟩ := hq_7
    have hF := fr_tr hF f_8 (by decide) (by decide)
    refine W.widen (k := 0) (n := 0) (Nat.le_refl _) (Nat.le_refl _) ?_
    have t_9 := hT
    refine tm_V (As := [.int r_5]) (rest := []) ⟨hx, hb, hml, hown, htg⟩ (c_X6_orStuck l D E G _ a C_6 hT r_5) (cwV 1 htg (oh_gV q_799 q_801 q_21 q_66 q_802) rfl rfl rfl pdVX6_orStuck ⟨Nat.le_of_ble_eq_true rfl, Nat.le_of_ble_eq_true rfl⟩) hK hP hD hG hS hA (va_recv hK hP (ci := 6) (q0 := 0) rfl (oh_wg (by decide) (sX_0 hT))) rfl hl.1 rfl (Nat.le_of_ble_eq_true rfl) dX6_cheapest_33 ⟨Nat.le_of_ble_eq_true rfl, Nat.le_of_ble_eq_true rfl⟩ (fun r_10 C_11 H locs hq_12 hP hD hS => ?_)
    obtain ⟨hT, f_13, hq_12⟩ := hq_12
    have hF := fr_tr hF f_13 (by decide) (by decide)
    refine W.widen (k := 0) (n := 0) (Nat.le_refl _) (Nat.le_refl _) ?_
    have t_14 := hT
    rw [hQ]
    exact W.iret (v := r_10) hx hb hr (fun t ht hW => ⟨⟨r_10, C_11, rfl, ⟨hT, hF, trivial⟩, ⟨by rw [ht]; exact hP, hD⟩⟩, hS.F ht⟩) hS.2.2 dX6_cheapest_36
  · refine lv_aload_n hx hb dX6_cheapest_12 rfl (lv_at hl 0 rfl) ?_
    refine lv_bipush (v := (-2)) hx hb dX6_cheapest_13 (by decide) ?_
    refine tm_V (As := [.int (-2)]) (rest := []) ⟨hx, hb, hml, hown, htg⟩ (c_X6_refuse l D E G _ a C hT ((-2) : Int32)) (cwV 1 htg (oh_gV q_296 q_298 q_0 q_66 q_299) rfl rfl rfl pdVX6_refuse ⟨Nat.le_of_ble_eq_true rfl, Nat.le_of_ble_eq_true rfl⟩) hK hP hD hG hS hA (va_recv hK hP (ci := 6) (q0 := 0) rfl (oh_wg (by decide) (sX_0 hT))) rfl hl.1 rfl (Nat.le_of_ble_eq_true rfl) dX6_cheapest_15 ⟨Nat.le_of_ble_eq_true rfl, Nat.le_of_ble_eq_true rfl⟩ (fun r_15 C_16 H locs hq_17 hP hD hS => ?_)
    obtain ⟨hT, f_18, hq_17⟩ := hq_17
    have hF := fr_tr hF f_18 (by decide) (by decide)
    refine W.widen (k := 0) (n := 0) (Nat.le_refl _) (Nat.le_refl _) ?_
    have t_19 := hT
    rw [hQ]
    exact W.iret (v := r_15) hx hb hr (fun t ht hW => ⟨⟨r_15, C_16, rfl, ⟨hT, hF, trivial⟩, ⟨by rw [ht]; exact hP, hD⟩⟩, hS.F ht⟩) hS.2.2 dX6_cheapest_18

set_option maxHeartbeats 4000000 in
set_option maxRecDepth 100000 in
theorem c_X6_soonest (l : Launch) (D : va_G) (E : Nat → ClassId) (G : Nat → Nat) (sz : Nat) (a : Nat → Nat) (C : Nat → va_E) (hT : TyX a E C) (x1 : Int32) (x2 : Int32) (x3 : Int32) (x4 : Int32) : Met l yX6_soonest (oh_w yX6_soonest cX6_soonest 5 (some .int)) ({ frames := 5, cells := 0, slots := 0, locals := 125 }) (oh_Pm D E G [.ref (a 0), .int x1, .int x2, .int x3, .int x4] (oh_W 35 a C) sz) (va_Qi (fun r (u : Nat → va_E) => TyX a E u ∧ fr [(7, 8), (9, 10), (24, 28)] [] C u ∧ True) (oh_B D (va_A (oh_W 35 a C) sz) (fun u => oh_W 35 a u)) (va_A (oh_W 35 a C) sz)) 0 0 (va_A (oh_W 35 a C) sz) := by
  refine Met.ofW (cc := cX6_soonest) (maxL := 5) (ret := (some .int)) (by decide) rfl ?_
  intro p e s m args below meth c s₁ B hml hv
  obtain ⟨rfl, hsz, hP, hK, hD0, hG⟩ := hv
  have hx := B.exec
  have hb := B.bytes
  have hr := B.returns
  have hts := atoms_spec (ws := (oh_w yX6_soonest cX6_soonest 5 (some .int))) B.pre
  have htg : ∀ w ∈ oh_t, w.before _ s = true := fun w h => hts w (List.mem_cons_of_mem _ h)
  have hown : s.vm.findClass RX6 = some m.cls := findClass_of_methodNamed B.named
  have hlocks := B.notSynchronized
  have hT0 := hT
  subst hsz
  have hD := hD0.self (sz := s.heap.size)
  generalize hAe : va_A (oh_W 35 a C) s.heap.size = A at hD hG ⊢
  have hA : ∀ q : Nat, s.heap.size ≤ q → A q := fun q h => by rw [← hAe]; exact Or.inr h
  have hS : va_S A s.heap s.heap [] := va_S.rf
  have hF : fr [(7, 8), (9, 10), (24, 28)] [] C C := fr_rf
  have hl := lv_entry ([.ref (a 0), .int x1, .int x2, .int x3, .int x4]) (n := 5) (Nat.le_of_ble_eq_true rfl)
  rw [lg_entry_eq]
  generalize (lg_sl ([.ref (a 0), .int x1, .int x2, .int x3, .int x4]) ++ List.replicate (5 - (lg_sl ([.ref (a 0), .int x1, .int x2, .int x3, .int x4])).length) Slot.unset).toArray = ls at hl ⊢
  have hl : lv_has ls 5 [(0, .ref (a 0)), (1, .int x1), (2, .int x2), (3, .int x3), (4, .int x4)] := hl
  refine oh_genQ (fun Q hQ => ?_)
  refine lv_aload_n hx hb dX6_soonest_0 rfl (lv_at hl 0 rfl) ?_
  refine lv_iload_n hx hb dX6_soonest_1 rfl (lv_at hl 1 rfl) ?_
  refine lv_iload_n hx hb dX6_soonest_2 rfl (lv_at hl 2 rfl) ?_
  refine lv_iload_n hx hb dX6_soonest_3 rfl (lv_at hl 3 rfl) ?_
  refine lv_iload hx hb dX6_soonest_4 (lv_at hl 4 rfl) ?_
  refine tq_V (As := [.int x1, .int x2, .int x3, .int x4]) (rest := []) (ws := (oh_W 35 a C)) ⟨hx, hb, hml, hown, htg⟩ (c_X6_isJourney l D E G a C hT x1 x2 x3 x4) (cwV 4 htg (oh_gV q_776 q_778 q_17 q_66 q_779) rfl rfl rfl pdVX6_isJourney ⟨Nat.le_of_ble_eq_true rfl, Nat.le_of_ble_eq_true rfl⟩) hK hP hG hS (va_recv hK hP (ci := 6) (q0 := 0) rfl (oh_wg (by decide) (sX_0 hT))) rfl hl.1 rfl (Nat.le_of_ble_eq_true rfl) dX6_soonest_6 ⟨Nat.le_of_ble_eq_true rfl, Nat.le_of_ble_eq_true rfl⟩ (fun r_1 hq_2 => ?_)
  refine lv_if_ne (tgt := 19) hx hb dX6_soonest_9 (by decide) (fun (c_3 : ¬ (r_1 = 0)) => ?_) (fun (c_3 : r_1 = 0) => ?_)
  · have u_4 := hq_2.2 c_3
    refine lv_aload_n hx hb dX6_soonest_19 rfl (lv_at hl 0 rfl) ?_
    refine lv_aload_n hx hb dX6_soonest_20 rfl (lv_at hl 0 rfl) ?_
    refine va_get (D := D) (ci := 6) (v := .ref (a 3)) (C := RX6) (T := TX6) (N := 9) hx hb htg ig_6 hown hK hP 0 (oh_wg (by decide) (sX_0 hT)) rfl 3 (by decide) (htg _ q_261) (fun _ h9 => h9) rfl dX6_soonest_21 ?_
    refine lv_iload_n hx hb dX6_soonest_24 rfl (lv_at hl 1 rfl) ?_
    refine lv_iload_n hx hb dX6_soonest_25 rfl (lv_at hl 2 rfl) ?_
    refine lv_iload_n hx hb dX6_soonest_26 rfl (lv_at hl 3 rfl) ?_
    refine lv_iload hx hb dX6_soonest_27 (lv_at hl 4 rfl) ?_
    refine tm_V (As := [.int x1, .int x2, .int x3, .int x4]) (rest := [.ref (a 0)]) ⟨hx, hb, hml, hown, htg⟩ (c_X5_leastDays l D E G _ a C hT x1 x2 x3 x4 (rg_w u_4.1 (by decide)) (rg_w u_4.2.1 (by decide)) (rg_w u_4.2.2 (by decide))) (cwV 4 htg (oh_gV q_808 q_809 q_810 q_68 q_811) rfl rfl rfl pdVX5_leastDays ⟨Nat.le_of_ble_eq_true rfl, Nat.le_of_ble_eq_true rfl⟩) hK hP hD hG hS hA (va_recv hK hP (ci := 5) (q0 := 3) rfl (oh_wg (by decide) (sX_3 hT))) rfl hl.1 rfl (Nat.le_of_ble_eq_true rfl) dX6_soonest_29 ⟨Nat.le_of_ble_eq_true rfl, Nat.le_of_ble_eq_true rfl⟩ (fun r_5 C_6 H locs hq_7 hP hD hS => ?_)
    obtain ⟨hT, f_8, hq_7⟩ := hq_7
    have hF := fr_tr hF f_8 (by decide) (by decide)
    refine W.widen (k := 0) (n := 0) (Nat.le_refl _) (Nat.le_refl _) ?_
    have t_9 := hT
    refine tm_V (As := [.int r_5]) (rest := []) ⟨hx, hb, hml, hown, htg⟩ (c_X6_orStuck l D E G _ a C_6 hT r_5) (cwV 1 htg (oh_gV q_799 q_801 q_21 q_66 q_802) rfl rfl rfl pdVX6_orStuck ⟨Nat.le_of_ble_eq_true rfl, Nat.le_of_ble_eq_true rfl⟩) hK hP hD hG hS hA (va_recv hK hP (ci := 6) (q0 := 0) rfl (oh_wg (by decide) (sX_0 hT))) rfl hl.1 rfl (Nat.le_of_ble_eq_true rfl) dX6_soonest_32 ⟨Nat.le_of_ble_eq_true rfl, Nat.le_of_ble_eq_true rfl⟩ (fun r_10 C_11 H locs hq_12 hP hD hS => ?_)
    obtain ⟨hT, f_13, hq_12⟩ := hq_12
    have hF := fr_tr hF f_13 (by decide) (by decide)
    refine W.widen (k := 0) (n := 0) (Nat.le_refl _) (Nat.le_refl _) ?_
    have t_14 := hT
    rw [hQ]
    exact W.iret (v := r_10) hx hb hr (fun t ht hW => ⟨⟨r_10, C_11, rfl, ⟨hT, hF, trivial⟩, ⟨by rw [ht]; exact hP, hD⟩⟩, hS.F ht⟩) hS.2.2 dX6_soonest_35
  · refine lv_aload_n hx hb dX6_soonest_12 rfl (lv_at hl 0 rfl) ?_
    refine lv_bipush (v := (-2)) hx hb dX6_soonest_13 (by decide) ?_
    refine tm_V (As := [.int (-2)]) (rest := []) ⟨hx, hb, hml, hown, htg⟩ (c_X6_refuse l D E G _ a C hT ((-2) : Int32)) (cwV 1 htg (oh_gV q_296 q_298 q_0 q_66 q_299) rfl rfl rfl pdVX6_refuse ⟨Nat.le_of_ble_eq_true rfl, Nat.le_of_ble_eq_true rfl⟩) hK hP hD hG hS hA (va_recv hK hP (ci := 6) (q0 := 0) rfl (oh_wg (by decide) (sX_0 hT))) rfl hl.1 rfl (Nat.le_of_ble_eq_true rfl) dX6_soonest_15 ⟨Nat.le_of_ble_eq_true rfl, Nat.le_of_ble_eq_true rfl⟩ (fun r_15 C_16 H locs hq_17 hP hD hS => ?_)
    obtain ⟨hT, f_18, hq_17⟩ := hq_17
    have hF := fr_tr hF f_18 (by decide) (by decide)
    refine W.widen (k := 0) (n := 0) (Nat.le_refl _) (Nat.le_refl _) ?_
    have t_19 := hT
    rw [hQ]
    exact W.iret (v := r_15) hx hb hr (fun t ht hW => ⟨⟨r_15, C_16, rfl, ⟨hT, hF, trivial⟩, ⟨by rw [ht]; exact hP, hD⟩⟩, hS.F ht⟩) hS.2.2 dX6_soonest_18

set_option maxHeartbeats 4000000 in
set_option maxRecDepth 100000 in
theorem c_X6_again (l : Launch) (D : va_G) (E : Nat → ClassId) (G : Nat → Nat) (sz : Nat) (a : Nat → Nat) (C : Nat → va_E) (hT : TyX a E C) (x1 : Int32) (x2 : Int32) (x3 : Int32) (x4 : Int32) (x5 : Int32) : Met l yX6_again (oh_w yX6_again cX6_again 6 (some .int)) ({ frames := 5, cells := 0, slots := 0, locals := 125 }) (oh_Pm D E G [.ref (a 0), .int x1, .int x2, .int x3, .int x4, .int x5] (oh_W 35 a C) sz) (va_Qi (fun r (u : Nat → va_E) => TyX a E u ∧ fr [(7, 8), (9, 10), (24, 28)] [] C u ∧ True) (oh_B D (va_A (oh_W 35 a C) sz) (fun u => oh_W 35 a u)) (va_A (oh_W 35 a C) sz)) 0 0 (va_A (oh_W 35 a C) sz) := by
  refine Met.ofW (cc := cX6_again) (maxL := 6) (ret := (some .int)) (by decide) rfl ?_
  intro p e s m args below meth c s₁ B hml hv
  obtain ⟨rfl, hsz, hP, hK, hD0, hG⟩ := hv
  have hx := B.exec
  have hb := B.bytes
  have hr := B.returns
  have hts := atoms_spec (ws := (oh_w yX6_again cX6_again 6 (some .int))) B.pre
  have htg : ∀ w ∈ oh_t, w.before _ s = true := fun w h => hts w (List.mem_cons_of_mem _ h)
  have hown : s.vm.findClass RX6 = some m.cls := findClass_of_methodNamed B.named
  have hlocks := B.notSynchronized
  have hT0 := hT
  subst hsz
  have hD := hD0.self (sz := s.heap.size)
  generalize hAe : va_A (oh_W 35 a C) s.heap.size = A at hD hG ⊢
  have hA : ∀ q : Nat, s.heap.size ≤ q → A q := fun q h => by rw [← hAe]; exact Or.inr h
  have hS : va_S A s.heap s.heap [] := va_S.rf
  have hF : fr [(7, 8), (9, 10), (24, 28)] [] C C := fr_rf
  have hl := lv_entry ([.ref (a 0), .int x1, .int x2, .int x3, .int x4, .int x5]) (n := 6) (Nat.le_of_ble_eq_true rfl)
  rw [lg_entry_eq]
  generalize (lg_sl ([.ref (a 0), .int x1, .int x2, .int x3, .int x4, .int x5]) ++ List.replicate (6 - (lg_sl ([.ref (a 0), .int x1, .int x2, .int x3, .int x4, .int x5])).length) Slot.unset).toArray = ls at hl ⊢
  have hl : lv_has ls 6 [(0, .ref (a 0)), (1, .int x1), (2, .int x2), (3, .int x3), (4, .int x4), (5, .int x5)] := hl
  refine oh_genQ (fun Q hQ => ?_)
  refine lv_aload_n hx hb dX6_again_0 rfl (lv_at hl 0 rfl) ?_
  refine lv_iload_n hx hb dX6_again_1 rfl (lv_at hl 1 rfl) ?_
  refine lv_iload_n hx hb dX6_again_2 rfl (lv_at hl 2 rfl) ?_
  refine lv_iload_n hx hb dX6_again_3 rfl (lv_at hl 3 rfl) ?_
  refine lv_iload hx hb dX6_again_4 (lv_at hl 4 rfl) ?_
  refine tq_V (As := [.int x1, .int x2, .int x3, .int x4]) (rest := []) (ws := (oh_W 35 a C)) ⟨hx, hb, hml, hown, htg⟩ (c_X6_isJourney l D E G a C hT x1 x2 x3 x4) (cwV 4 htg (oh_gV q_776 q_778 q_17 q_66 q_779) rfl rfl rfl pdVX6_isJourney ⟨Nat.le_of_ble_eq_true rfl, Nat.le_of_ble_eq_true rfl⟩) hK hP hG hS (va_recv hK hP (ci := 6) (q0 := 0) rfl (oh_wg (by decide) (sX_0 hT))) rfl hl.1 rfl (Nat.le_of_ble_eq_true rfl) dX6_again_6 ⟨Nat.le_of_ble_eq_true rfl, Nat.le_of_ble_eq_true rfl⟩ (fun r_1 hq_2 => ?_)
  refine lv_if_eq (tgt := 23) hx hb dX6_again_9 (by decide) (fun (c_3 : r_1 = 0) => ?_) (fun (c_3 : ¬ (r_1 = 0)) => ?_)
  · refine lv_aload_n hx hb dX6_again_23 rfl (lv_at hl 0 rfl) ?_
    refine lv_bipush (v := (-2)) hx hb dX6_again_24 (by decide) ?_
    refine tm_V (As := [.int (-2)]) (rest := []) ⟨hx, hb, hml, hown, htg⟩ (c_X6_refuse l D E G _ a C hT ((-2) : Int32)) (cwV 1 htg (oh_gV q_296 q_298 q_0 q_66 q_299) rfl rfl rfl pdVX6_refuse ⟨Nat.le_of_ble_eq_true rfl, Nat.le_of_ble_eq_true rfl⟩) hK hP hD hG hS hA (va_recv hK hP (ci := 6) (q0 := 0) rfl (oh_wg (by decide) (sX_0 hT))) rfl hl.1 rfl (Nat.le_of_ble_eq_true rfl) dX6_again_26 ⟨Nat.le_of_ble_eq_true rfl, Nat.le_of_ble_eq_true rfl⟩ (fun r_4 C_5 H locs hq_6 hP hD hS => ?_)
    obtain ⟨hT, f_7, hq_6⟩ := hq_6
    have hF := fr_tr hF f_7 (by decide) (by decide)
    refine W.widen (k := 0) (n := 0) (Nat.le_refl _) (Nat.le_refl _) ?_
    have t_8 := hT
    rw [hQ]
    exact W.iret (v := r_4) hx hb hr (fun t ht hW => ⟨⟨r_4, C_5, rfl, ⟨hT, hF, trivial⟩, ⟨by rw [ht]; exact hP, hD⟩⟩, hS.F ht⟩) hS.2.2 dX6_again_29
  · have u_9 := hq_2.2 c_3
    refine lv_iload hx hb dX6_again_12 (lv_at hl 5 rfl) ?_
    refine lv_iconst (v := 1) hx hb dX6_again_14 (by decide) ?_
    refine lv_bipush (v := 20) hx hb dX6_again_15 (by decide) ?_
    refine tq_S (As := [.int x5, .int 1, .int 20]) (rest := []) (ws := []) ⟨hx, hb, hml, hown, htg⟩ (c_X6_within l D E G x5 (1 : Int32) (20 : Int32)) (va_cwS 3 htg (oh_gS q_293 q_294 q_66 q_295) rfl rfl rfl pdX6_within ⟨Nat.le_of_ble_eq_true rfl, Nat.le_of_ble_eq_true rfl⟩) hK va_nil hG hS rfl hl.1 rfl (Nat.le_of_ble_eq_true rfl) dX6_again_17 ⟨Nat.le_of_ble_eq_true rfl, Nat.le_of_ble_eq_true rfl⟩ (fun r_10 hq_11 => ?_)
    refine lv_if_ne (tgt := 30) hx hb dX6_again_20 (by decide) (fun (c_12 : ¬ (r_10 = 0)) => ?_) (fun (c_12 : r_10 = 0) => ?_)
    · have u_13 := hq_11.2.1 c_12
      refine lv_aload_n hx hb dX6_again_30 rfl (lv_at hl 0 rfl) ?_
      refine lv_aload_n hx hb dX6_again_31 rfl (lv_at hl 0 rfl) ?_
      refine va_get (D := D) (ci := 6) (v := .ref (a 3)) (C := RX6) (T := TX6) (N := 9) hx hb htg ig_6 hown hK hP 0 (oh_wg (by decide) (sX_0 hT)) rfl 3 (by decide) (htg _ q_261) (fun _ h9 => h9) rfl dX6_again_32 ?_
      refine lv_iload_n hx hb dX6_again_35 rfl (lv_at hl 1 rfl) ?_
      refine lv_iload_n hx hb dX6_again_36 rfl (lv_at hl 2 rfl) ?_
      refine lv_iload_n hx hb dX6_again_37 rfl (lv_at hl 3 rfl) ?_
      refine lv_iload hx hb dX6_again_38 (lv_at hl 4 rfl) ?_
      refine lv_iload hx hb dX6_again_40 (lv_at hl 5 rfl) ?_
      refine tm_V (As := [.int x1, .int x2, .int x3, .int x4, .int x5]) (rest := [.ref (a 0)]) ⟨hx, hb, hml, hown, htg⟩ (c_X5_leastCoin l D E G _ a C hT x1 x2 x3 x4 x5 (rg_w u_9.1 (by decide)) (rg_w u_9.2.1 (by decide)) (rg_w u_9.2.2 (by decide))) (cwV 5 htg (oh_gV q_780 q_781 q_782 q_68 q_783) rfl rfl rfl pdVX5_leastCoin ⟨Nat.le_of_ble_eq_true rfl, Nat.le_of_ble_eq_true rfl⟩) hK hP hD hG hS hA (va_recv hK hP (ci := 5) (q0 := 3) rfl (oh_wg (by decide) (sX_3 hT))) rfl hl.1 rfl (Nat.le_of_ble_eq_true rfl) dX6_again_42 ⟨Nat.le_of_ble_eq_true rfl, Nat.le_of_ble_eq_true rfl⟩ (fun r_14 C_15 H locs hq_16 hP hD hS => ?_)
      obtain ⟨hT, f_17, hq_16⟩ := hq_16
      have hF := fr_tr hF f_17 (by decide) (by decide)
      refine W.widen (k := 0) (n := 0) (Nat.le_refl _) (Nat.le_refl _) ?_
      have t_18 := hT
      refine tm_V (As := [.int r_14]) (rest := []) ⟨hx, hb, hml, hown, htg⟩ (c_X6_orStuck l D E G _ a C_15 hT r_14) (cwV 1 htg (oh_gV q_799 q_801 q_21 q_66 q_802) rfl rfl rfl pdVX6_orStuck ⟨Nat.le_of_ble_eq_true rfl, Nat.le_of_ble_eq_true rfl⟩) hK hP hD hG hS hA (va_recv hK hP (ci := 6) (q0 := 0) rfl (oh_wg (by decide) (sX_0 hT))) rfl hl.1 rfl (Nat.le_of_ble_eq_true rfl) dX6_again_45 ⟨Nat.le_of_ble_eq_true rfl, Nat.le_of_ble_eq_true rfl⟩ (fun r_19 C_20 H locs hq_21 hP hD hS => ?_)
      obtain ⟨hT, f_22, hq_21⟩ := hq_21
      have hF := fr_tr hF f_22 (by decide) (by decide)
      refine W.widen (k := 0) (n := 0) (Nat.le_refl _) (Nat.le_refl _) ?_
      have t_23 := hT
      rw [hQ]
      exact W.iret (v := r_19) hx hb hr (fun t ht hW => ⟨⟨r_19, C_20, rfl, ⟨hT, hF, trivial⟩, ⟨by rw [ht]; exact hP, hD⟩⟩, hS.F ht⟩) hS.2.2 dX6_again_48
    · have u_24 := hq_11.2.2 c_12
      refine lv_aload_n hx hb dX6_again_23 rfl (lv_at hl 0 rfl) ?_
      refine lv_bipush (v := (-2)) hx hb dX6_again_24 (by decide) ?_
      refine tm_V (As := [.int (-2)]) (rest := []) ⟨hx, hb, hml, hown, htg⟩ (c_X6_refuse l D E G _ a C hT ((-2) : Int32)) (cwV 1 htg (oh_gV q_296 q_298 q_0 q_66 q_299) rfl rfl rfl pdVX6_refuse ⟨Nat.le_of_ble_eq_true rfl, Nat.le_of_ble_eq_true rfl⟩) hK hP hD hG hS hA (va_recv hK hP (ci := 6) (q0 := 0) rfl (oh_wg (by decide) (sX_0 hT))) rfl hl.1 rfl (Nat.le_of_ble_eq_true rfl) dX6_again_26 ⟨Nat.le_of_ble_eq_true rfl, Nat.le_of_ble_eq_true rfl⟩ (fun r_25 C_26 H locs hq_27 hP hD hS => ?_)
      obtain ⟨hT, f_28, hq_27⟩ := hq_27
      have hF := fr_tr hF f_28 (by decide) (by decide)
      refine W.widen (k := 0) (n := 0) (Nat.le_refl _) (Nat.le_refl _) ?_
      have t_29 := hT
      rw [hQ]
      exact W.iret (v := r_25) hx hb hr (fun t ht hW => ⟨⟨r_25, C_26, rfl, ⟨hT, hF, trivial⟩, ⟨by rw [ht]; exact hP, hD⟩⟩, hS.F ht⟩) hS.2.2 dX6_again_29

set_option maxHeartbeats 4000000 in
set_option maxRecDepth 100000 in
theorem c_X6_best (l : Launch) (D : va_G) (E : Nat → ClassId) (G : Nat → Nat) (sz : Nat) (a : Nat → Nat) (C : Nat → va_E) (hT : TyX a E C) (x1 : Int32) (x2 : Int32) (x3 : Int32) : Met l yX6_best (oh_w yX6_best cX6_best 4 (some .int)) ({ frames := 6, cells := 0, slots := 0, locals := 150 }) (oh_Pm D E G [.ref (a 0), .int x1, .int x2, .int x3] (oh_W 35 a C) sz) (va_Qi (fun r (u : Nat → va_E) => TyX a E u ∧ fr [(7, 10), (24, 28)] [] C u ∧ True) (oh_B D (va_A (oh_W 35 a C) sz) (fun u => oh_W 35 a u)) (va_A (oh_W 35 a C) sz)) 0 0 (va_A (oh_W 35 a C) sz) := by
  refine Met.ofW (cc := cX6_best) (maxL := 4) (ret := (some .int)) (by decide) rfl ?_
  intro p e s m args below meth c s₁ B hml hv
  obtain ⟨rfl, hsz, hP, hK, hD0, hG⟩ := hv
  have hx := B.exec
  have hb := B.bytes
  have hr := B.returns
  have hts := atoms_spec (ws := (oh_w yX6_best cX6_best 4 (some .int))) B.pre
  have htg : ∀ w ∈ oh_t, w.before _ s = true := fun w h => hts w (List.mem_cons_of_mem _ h)
  have hown : s.vm.findClass RX6 = some m.cls := findClass_of_methodNamed B.named
  have hlocks := B.notSynchronized
  have hT0 := hT
  subst hsz
  have hD := hD0.self (sz := s.heap.size)
  generalize hAe : va_A (oh_W 35 a C) s.heap.size = A at hD hG ⊢
  have hA : ∀ q : Nat, s.heap.size ≤ q → A q := fun q h => by rw [← hAe]; exact Or.inr h
  have hS : va_S A s.heap s.heap [] := va_S.rf
  have hF : fr [(7, 10), (24, 28)] [] C C := fr_rf
  have hl := lv_entry ([.ref (a 0), .int x1, .int x2, .int x3]) (n := 4) (Nat.le_of_ble_eq_true rfl)
  rw [lg_entry_eq]
  generalize (lg_sl ([.ref (a 0), .int x1, .int x2, .int x3]) ++ List.replicate (4 - (lg_sl ([.ref (a 0), .int x1, .int x2, .int x3])).length) Slot.unset).toArray = ls at hl ⊢
  have hl : lv_has ls 4 [(0, .ref (a 0)), (1, .int x1), (2, .int x2), (3, .int x3)] := hl
  refine oh_genQ (fun Q hQ => ?_)
  refine lv_iload_n hx hb dX6_best_0 rfl (lv_at hl 1 rfl) ?_
  refine tq_S (As := [.int x1]) (rest := []) (ws := []) ⟨hx, hb, hml, hown, htg⟩ (c_X6_isPlace l D E G x1) (va_cwS 1 htg (oh_gS q_413 q_414 q_66 q_415) rfl rfl rfl pdX6_isPlace ⟨Nat.le_of_ble_eq_true rfl, Nat.le_of_ble_eq_true rfl⟩) hK va_nil hG hS rfl hl.1 rfl (Nat.le_of_ble_eq_true rfl) dX6_best_1 ⟨Nat.le_of_ble_eq_true rfl, Nat.le_of_ble_eq_true rfl⟩ (fun r_1 hq_2 => ?_)
  refine lv_if_eq (tgt := 23) hx hb dX6_best_4 (by decide) (fun (c_3 : r_1 = 0) => ?_) (fun (c_3 : ¬ (r_1 = 0)) => ?_)
  · refine lv_aload_n hx hb dX6_best_23 rfl (lv_at hl 0 rfl) ?_
    refine lv_bipush (v := (-2)) hx hb dX6_best_24 (by decide) ?_
    refine tm_V (As := [.int (-2)]) (rest := []) ⟨hx, hb, hml, hown, htg⟩ (c_X6_refuse l D E G _ a C hT ((-2) : Int32)) (cwV 1 htg (oh_gV q_296 q_298 q_0 q_66 q_299) rfl rfl rfl pdVX6_refuse ⟨Nat.le_of_ble_eq_true rfl, Nat.le_of_ble_eq_true rfl⟩) hK hP hD hG hS hA (va_recv hK hP (ci := 6) (q0 := 0) rfl (oh_wg (by decide) (sX_0 hT))) rfl hl.1 rfl (Nat.le_of_ble_eq_true rfl) dX6_best_26 ⟨Nat.le_of_ble_eq_true rfl, Nat.le_of_ble_eq_true rfl⟩ (fun r_4 C_5 H locs hq_6 hP hD hS => ?_)
    obtain ⟨hT, f_7, hq_6⟩ := hq_6
    have hF := fr_tr hF f_7 (by decide) (by decide)
    refine W.widen (k := 0) (n := 0) (Nat.le_refl _) (Nat.le_refl _) ?_
    have t_8 := hT
    rw [hQ]
    exact W.iret (v := r_4) hx hb hr (fun t ht hW => ⟨⟨r_4, C_5, rfl, ⟨hT, hF, trivial⟩, ⟨by rw [ht]; exact hP, hD⟩⟩, hS.F ht⟩) hS.2.2 dX6_best_29
  · have u_9 := hq_2.2 c_3
    refine lv_iload_n hx hb dX6_best_7 rfl (lv_at hl 2 rfl) ?_
    refine tq_S (As := [.int x2]) (rest := []) (ws := []) ⟨hx, hb, hml, hown, htg⟩ (c_X6_isPlace l D E G x2) (va_cwS 1 htg (oh_gS q_413 q_414 q_66 q_415) rfl rfl rfl pdX6_isPlace ⟨Nat.le_of_ble_eq_true rfl, Nat.le_of_ble_eq_true rfl⟩) hK va_nil hG hS rfl hl.1 rfl (Nat.le_of_ble_eq_true rfl) dX6_best_8 ⟨Nat.le_of_ble_eq_true rfl, Nat.le_of_ble_eq_true rfl⟩ (fun r_10 hq_11 => ?_)
    refine lv_if_eq (tgt := 23) hx hb dX6_best_11 (by decide) (fun (c_12 : r_10 = 0) => ?_) (fun (c_12 : ¬ (r_10 = 0)) => ?_)
    · refine lv_aload_n hx hb dX6_best_23 rfl (lv_at hl 0 rfl) ?_
      refine lv_bipush (v := (-2)) hx hb dX6_best_24 (by decide) ?_
      refine tm_V (As := [.int (-2)]) (rest := []) ⟨hx, hb, hml, hown, htg⟩ (c_X6_refuse l D E G _ a C hT ((-2) : Int32)) (cwV 1 htg (oh_gV q_296 q_298 q_0 q_66 q_299) rfl rfl rfl pdVX6_refuse ⟨Nat.le_of_ble_eq_true rfl, Nat.le_of_ble_eq_true rfl⟩) hK hP hD hG hS hA (va_recv hK hP (ci := 6) (q0 := 0) rfl (oh_wg (by decide) (sX_0 hT))) rfl hl.1 rfl (Nat.le_of_ble_eq_true rfl) dX6_best_26 ⟨Nat.le_of_ble_eq_true rfl, Nat.le_of_ble_eq_true rfl⟩ (fun r_13 C_14 H locs hq_15 hP hD hS => ?_)
      obtain ⟨hT, f_16, hq_15⟩ := hq_15
      have hF := fr_tr hF f_16 (by decide) (by decide)
      refine W.widen (k := 0) (n := 0) (Nat.le_refl _) (Nat.le_refl _) ?_
      have t_17 := hT
      rw [hQ]
      exact W.iret (v := r_13) hx hb hr (fun t ht hW => ⟨⟨r_13, C_14, rfl, ⟨hT, hF, trivial⟩, ⟨by rw [ht]; exact hP, hD⟩⟩, hS.F ht⟩) hS.2.2 dX6_best_29
    · have u_18 := hq_11.2 c_12
      refine lv_iload_n hx hb dX6_best_14 rfl (lv_at hl 3 rfl) ?_
      refine lv_iconst (v := 0) hx hb dX6_best_15 (by decide) ?_
      refine lv_iconst (v := 2) hx hb dX6_best_16 (by decide) ?_
      refine tq_S (As := [.int x3, .int 0, .int 2]) (rest := []) (ws := []) ⟨hx, hb, hml, hown, htg⟩ (c_X6_within l D E G x3 (0 : Int32) (2 : Int32)) (va_cwS 3 htg (oh_gS q_293 q_294 q_66 q_295) rfl rfl rfl pdX6_within ⟨Nat.le_of_ble_eq_true rfl, Nat.le_of_ble_eq_true rfl⟩) hK va_nil hG hS rfl hl.1 rfl (Nat.le_of_ble_eq_true rfl) dX6_best_17 ⟨Nat.le_of_ble_eq_true rfl, Nat.le_of_ble_eq_true rfl⟩ (fun r_19 hq_20 => ?_)
      refine lv_if_ne (tgt := 30) hx hb dX6_best_20 (by decide) (fun (c_21 : ¬ (r_19 = 0)) => ?_) (fun (c_21 : r_19 = 0) => ?_)
      · have u_22 := hq_20.2.1 c_21
        refine lv_aload_n hx hb dX6_best_30 rfl (lv_at hl 0 rfl) ?_
        refine lv_iload_n hx hb dX6_best_31 rfl (lv_at hl 1 rfl) ?_
        refine lv_iload_n hx hb dX6_best_32 rfl (lv_at hl 2 rfl) ?_
        refine tm_Vv (As := [.int x1, .int x2]) (rest := []) ⟨hx, hb, hml, hown, htg⟩ (c_X6_findBest l D E G _ a C hT x1 x2 (rg_w u_9 (by decide)) (rg_w u_18 (by decide))) (cwV 2 htg (oh_gV q_821 q_823 q_22 q_66 q_824) rfl rfl rfl pdVX6_findBest ⟨Nat.le_of_ble_eq_true rfl, Nat.le_of_ble_eq_true rfl⟩) hK hP hD hG hS hA (va_recv hK hP (ci := 6) (q0 := 0) rfl (oh_wg (by decide) (sX_0 hT))) rfl hl.1 rfl (Nat.le_of_ble_eq_true rfl) dX6_best_33 ⟨Nat.le_of_ble_eq_true rfl, Nat.le_of_ble_eq_true rfl⟩ (fun C_24 H locs hq_25 hP hD hS => ?_)
        obtain ⟨hT, f_26, hq_25⟩ := hq_25
        have hF := fr_tr hF f_26 (by decide) (by decide)
        refine W.widen (k := 0) (n := 0) (Nat.le_refl _) (Nat.le_refl _) ?_
        have t_27 := hT
        refine lv_aload_n hx hb dX6_best_36 rfl (lv_at hl 0 rfl) ?_
        refine va_get (D := D) (ci := 6) (v := .ref (a 8)) (C := RX6) (T := TX6) (N := 9) hx hb htg ig_6 hown hK hP 0 (oh_wg (by decide) (sX_0 hT)) rfl 8 (by decide) (htg _ q_266) (fun _ h9 => h9) rfl dX6_best_37 ?_
        refine lv_iconst (v := 2) hx hb dX6_best_40 (by decide) ?_
        refine th_iald hx hb hK hP 8 (by decide) (sX_8 hT) (rg_in (rg_c (v := 2) (lo := 2) (hi := 2) (by decide)) (by decide)) dX6_best_41 ?_
        refine lv_ldc (v := 1000000000) hx hb hown (htg _ q_803) dX6_best_42 ?_
        refine lv_icmp_ne (tgt := 56) hx hb dX6_best_44 (by decide) (fun (c_28 : ¬ ((ga (C_24 8) ((2 : Int32)).toNatClampNeg) = 1000000000)) => ?_) (fun (c_28 : (ga (C_24 8) ((2 : Int32)).toNatClampNeg) = 1000000000) => ?_)
        · refine lv_aload_n hx hb dX6_best_56 rfl (lv_at hl 0 rfl) ?_
          refine va_get (D := D) (ci := 6) (v := .ref (a 8)) (C := RX6) (T := TX6) (N := 9) hx hb htg ig_6 hown hK hP 0 (oh_wg (by decide) (sX_0 hT)) rfl 8 (by decide) (htg _ q_266) (fun _ h9 => h9) rfl dX6_best_57 ?_
          refine lv_iload_n hx hb dX6_best_60 rfl (lv_at hl 3 rfl) ?_
          have n_29 : vp_in x3 3 := (rg_in (rn_leu u_22.2 (rn_lel u_22.1 (rg_c (v := 0) (lo := 0) (hi := 0) (by decide)) (rg_any _)) (rg_c (v := 2) (lo := 2) (hi := 2) (by decide))) (by decide))
          refine th_iald hx hb hK hP 8 (by decide) (sX_8 hT) n_29 dX6_best_61 ?_
          rw [hQ]
          exact W.iret (v := ga (C_24 8) (x3).toNatClampNeg) hx hb hr (fun t ht hW => ⟨⟨ga (C_24 8) (x3).toNatClampNeg, C_24, rfl, ⟨hT, hF, trivial⟩, ⟨by rw [ht]; exact hP, hD⟩⟩, hS.F ht⟩) hS.2.2 dX6_best_62
        · refine lv_aload_n hx hb dX6_best_47 rfl (lv_at hl 0 rfl) ?_
          refine lv_bipush (v := (-5)) hx hb dX6_best_48 (by decide) ?_
          refine tm_V (As := [.int (-5)]) (rest := []) ⟨hx, hb, hml, hown, htg⟩ (c_X6_refuse l D E G _ a C_24 hT ((-5) : Int32)) (cwV 1 htg (oh_gV q_296 q_298 q_0 q_66 q_299) rfl rfl rfl pdVX6_refuse ⟨Nat.le_of_ble_eq_true rfl, Nat.le_of_ble_eq_true rfl⟩) hK hP hD hG hS hA (va_recv hK hP (ci := 6) (q0 := 0) rfl (oh_wg (by decide) (sX_0 hT))) rfl hl.1 rfl (Nat.le_of_ble_eq_true rfl) dX6_best_50 ⟨Nat.le_of_ble_eq_true rfl, Nat.le_of_ble_eq_true rfl⟩ (fun r_30 C_31 H locs hq_32 hP hD hS => ?_)
          obtain ⟨hT, f_33, hq_32⟩ := hq_32
          have hF := fr_tr hF f_33 (by decide) (by decide)
          refine W.widen (k := 0) (n := 0) (Nat.le_refl _) (Nat.le_refl _) ?_
          have t_34 := hT
          refine lv_goto (tgt := 62) hx hb dX6_best_53 (by decide) ?_
          rw [hQ]
          exact W.iret (v := r_30) hx hb hr (fun t ht hW => ⟨⟨r_30, C_31, rfl, ⟨hT, hF, trivial⟩, ⟨by rw [ht]; exact hP, hD⟩⟩, hS.F ht⟩) hS.2.2 dX6_best_62
      · have u_35 := hq_20.2.2 c_21
        refine lv_aload_n hx hb dX6_best_23 rfl (lv_at hl 0 rfl) ?_
        refine lv_bipush (v := (-2)) hx hb dX6_best_24 (by decide) ?_
        refine tm_V (As := [.int (-2)]) (rest := []) ⟨hx, hb, hml, hown, htg⟩ (c_X6_refuse l D E G _ a C hT ((-2) : Int32)) (cwV 1 htg (oh_gV q_296 q_298 q_0 q_66 q_299) rfl rfl rfl pdVX6_refuse ⟨Nat.le_of_ble_eq_true rfl, Nat.le_of_ble_eq_true rfl⟩) hK hP hD hG hS hA (va_recv hK hP (ci := 6) (q0 := 0) rfl (oh_wg (by decide) (sX_0 hT))) rfl hl.1 rfl (Nat.le_of_ble_eq_true rfl) dX6_best_26 ⟨Nat.le_of_ble_eq_true rfl, Nat.le_of_ble_eq_true rfl⟩ (fun r_36 C_37 H locs hq_38 hP hD hS => ?_)
        obtain ⟨hT, f_39, hq_38⟩ := hq_38
        have hF := fr_tr hF f_39 (by decide) (by decide)
        refine W.widen (k := 0) (n := 0) (Nat.le_refl _) (Nat.le_refl _) ?_
        have t_40 := hT
        rw [hQ]
        exact W.iret (v := r_36) hx hb hr (fun t ht hW => ⟨⟨r_36, C_37, rfl, ⟨hT, hF, trivial⟩, ⟨by rw [ht]; exact hP, hD⟩⟩, hS.F ht⟩) hS.2.2 dX6_best_29

set_option maxHeartbeats 4000000 in
set_option maxRecDepth 100000 in
theorem c_X6_judge (l : Launch) (D : va_G) (E : Nat → ClassId) (G : Nat → Nat) (sz : Nat) (a : Nat → Nat) (C : Nat → va_E) (hT : TyX a E C) (x1 : Int32) (x2 : Int32) (x3 : Int32) (x4 : Int32) (x5 : Int32) : Met l yX6_judge (oh_w yX6_judge cX6_judge 7 (some .int)) ({ frames := 5, cells := 0, slots := 0, locals := 113 }) (oh_Pm D E G [.ref (a 0), .int x1, .int x2, .int x3, .int x4, .int x5] (oh_W 35 a C) sz) (va_Qi (fun r (u : Nat → va_E) => TyX a E u ∧ fr [(7, 8), (9, 10), (24, 26), (28, 29)] [] C u ∧ True) (oh_B D (va_A (oh_W 35 a C) sz) (fun u => oh_W 35 a u)) (va_A (oh_W 35 a C) sz)) 0 0 (va_A (oh_W 35 a C) sz) := by
  refine Met.ofW (cc := cX6_judge) (maxL := 7) (ret := (some .int)) (by decide) rfl ?_
  intro p e s m args below meth c s₁ B hml hv
  obtain ⟨rfl, hsz, hP, hK, hD0, hG⟩ := hv
  have hx := B.exec
  have hb := B.bytes
  have hr := B.returns
  have hts := atoms_spec (ws := (oh_w yX6_judge cX6_judge 7 (some .int))) B.pre
  have htg : ∀ w ∈ oh_t, w.before _ s = true := fun w h => hts w (List.mem_cons_of_mem _ h)
  have hown : s.vm.findClass RX6 = some m.cls := findClass_of_methodNamed B.named
  have hlocks := B.notSynchronized
  have hT0 := hT
  subst hsz
  have hD := hD0.self (sz := s.heap.size)
  generalize hAe : va_A (oh_W 35 a C) s.heap.size = A at hD hG ⊢
  have hA : ∀ q : Nat, s.heap.size ≤ q → A q := fun q h => by rw [← hAe]; exact Or.inr h
  have hS : va_S A s.heap s.heap [] := va_S.rf
  have hF : fr [(7, 8), (9, 10), (24, 26), (28, 29)] [] C C := fr_rf
  have hl := lv_entry ([.ref (a 0), .int x1, .int x2, .int x3, .int x4, .int x5]) (n := 7) (Nat.le_of_ble_eq_true rfl)
  rw [lg_entry_eq]
  generalize (lg_sl ([.ref (a 0), .int x1, .int x2, .int x3, .int x4, .int x5]) ++ List.replicate (7 - (lg_sl ([.ref (a 0), .int x1, .int x2, .int x3, .int x4, .int x5])).length) Slot.unset).toArray = ls at hl ⊢
  have hl : lv_has ls 7 [(0, .ref (a 0)), (1, .int x1), (2, .int x2), (3, .int x3), (4, .int x4), (5, .int x5)] := hl
  refine oh_genQ (fun Q hQ => ?_)
  refine lv_aload_n hx hb dX6_judge_0 rfl (lv_at hl 0 rfl) ?_
  refine lv_iload_n hx hb dX6_judge_1 rfl (lv_at hl 1 rfl) ?_
  refine lv_iload_n hx hb dX6_judge_2 rfl (lv_at hl 2 rfl) ?_
  refine lv_iload_n hx hb dX6_judge_3 rfl (lv_at hl 3 rfl) ?_
  refine lv_iload hx hb dX6_judge_4 (lv_at hl 4 rfl) ?_
  refine lv_iload hx hb dX6_judge_6 (lv_at hl 5 rfl) ?_
  refine tq_V (As := [.int x1, .int x2, .int x3, .int x4, .int x5]) (rest := []) (ws := (oh_W 35 a C)) ⟨hx, hb, hml, hown, htg⟩ (c_X6_whyNotTold l D E G a C hT x1 x2 x3 x4 x5) (cwV 5 htg (oh_gV q_830 q_832 q_23 q_66 q_833) rfl rfl rfl pdVX6_whyNotTold ⟨Nat.le_of_ble_eq_true rfl, Nat.le_of_ble_eq_true rfl⟩) hK hP hG hS (va_recv hK hP (ci := 6) (q0 := 0) rfl (oh_wg (by decide) (sX_0 hT))) rfl hl.1 rfl (Nat.le_of_ble_eq_true rfl) dX6_judge_8 ⟨Nat.le_of_ble_eq_true rfl, Nat.le_of_ble_eq_true rfl⟩ (fun r_1 hq_2 => ?_)
  refine lv_istore (lv' := [(6, .int r_1), (0, .ref (a 0)), (1, .int x1), (2, .int x2), (3, .int x3), (4, .int x4), (5, .int x5)]) hx hb dX6_judge_11 hl (by decide) rfl (fun ls hl => ?_)
  refine lv_iload hx hb dX6_judge_13 (lv_at hl 0 rfl) ?_
  refine lv_if_eq (tgt := 25) hx hb dX6_judge_15 (by decide) (fun (c_3 : r_1 = 0) => ?_) (fun (c_3 : ¬ (r_1 = 0)) => ?_)
  · have u_4 := hq_2 c_3
    refine lv_aload_n hx hb dX6_judge_25 rfl (lv_at hl 1 rfl) ?_
    refine va_get (D := D) (ci := 6) (v := .ref (a 3)) (C := RX6) (T := TX6) (N := 9) hx hb htg ig_6 hown hK hP 0 (oh_wg (by decide) (sX_0 hT)) rfl 3 (by decide) (htg _ q_261) (fun _ h9 => h9) rfl dX6_judge_26 ?_
    refine lv_iload_n hx hb dX6_judge_29 rfl (lv_at hl 2 rfl) ?_
    refine lv_iload_n hx hb dX6_judge_30 rfl (lv_at hl 3 rfl) ?_
    refine tm_Vv (As := [.int x1, .int x2]) (rest := []) ⟨hx, hb, hml, hown, htg⟩ (c_X5_survey l D E G _ a C hT x1 x2 (rg_w u_4.1 (by decide))) (cwV 2 htg (oh_gV q_750 q_751 q_752 q_68 q_753) rfl rfl rfl pdVX5_survey ⟨Nat.le_of_ble_eq_true rfl, Nat.le_of_ble_eq_true rfl⟩) hK hP hD hG hS hA (va_recv hK hP (ci := 5) (q0 := 3) rfl (oh_wg (by decide) (sX_3 hT))) rfl hl.1 rfl (Nat.le_of_ble_eq_true rfl) dX6_judge_31 ⟨Nat.le_of_ble_eq_true rfl, Nat.le_of_ble_eq_true rfl⟩ (fun C_6 H locs hq_7 hP hD hS => ?_)
    obtain ⟨hT, f_8, hq_7⟩ := hq_7
    have hF := fr_tr hF f_8 (by decide) (by decide)
    refine W.widen (k := 0) (n := 0) (Nat.le_refl _) (Nat.le_refl _) ?_
    have t_9 := hT
    refine lv_aload_n hx hb dX6_judge_34 rfl (lv_at hl 1 rfl) ?_
    refine lv_iload_n hx hb dX6_judge_35 rfl (lv_at hl 4 rfl) ?_
    refine lv_iload hx hb dX6_judge_36 (lv_at hl 5 rfl) ?_
    refine lv_iload hx hb dX6_judge_38 (lv_at hl 6 rfl) ?_
    refine tm_V (As := [.int x3, .int x4, .int x5]) (rest := []) ⟨hx, hb, hml, hown, htg⟩ (c_X6_firstWrong l D E G _ a C_6 hT x3 x4 x5 (rg_w u_4.2.1 (by decide)) (rg_w u_4.2.2.1 (by decide)) (rg_w u_4.2.2.2 (by decide))) (cwV 3 htg (oh_gV q_834 q_836 q_24 q_66 q_837) rfl rfl rfl pdVX6_firstWrong ⟨Nat.le_of_ble_eq_true rfl, Nat.le_of_ble_eq_true rfl⟩) hK hP hD hG hS hA (va_recv hK hP (ci := 6) (q0 := 0) rfl (oh_wg (by decide) (sX_0 hT))) rfl hl.1 rfl (Nat.le_of_ble_eq_true rfl) dX6_judge_40 ⟨Nat.le_of_ble_eq_true rfl, Nat.le_of_ble_eq_true rfl⟩ (fun r_10 C_11 H locs hq_12 hP hD hS => ?_)
    obtain ⟨hT, f_13, hq_12⟩ := hq_12
    have hF := fr_tr hF f_13 (by decide) (by decide)
    refine W.widen (k := 0) (n := 0) (Nat.le_refl _) (Nat.le_refl _) ?_
    have t_14 := hT
    rw [hQ]
    exact W.iret (v := r_10) hx hb hr (fun t ht hW => ⟨⟨r_10, C_11, rfl, ⟨hT, hF, trivial⟩, ⟨by rw [ht]; exact hP, hD⟩⟩, hS.F ht⟩) hS.2.2 dX6_judge_43
  · refine lv_aload_n hx hb dX6_judge_18 rfl (lv_at hl 1 rfl) ?_
    refine lv_iload hx hb dX6_judge_19 (lv_at hl 0 rfl) ?_
    refine tm_V (As := [.int r_1]) (rest := []) ⟨hx, hb, hml, hown, htg⟩ (c_X6_refuse l D E G _ a C hT r_1) (cwV 1 htg (oh_gV q_296 q_298 q_0 q_66 q_299) rfl rfl rfl pdVX6_refuse ⟨Nat.le_of_ble_eq_true rfl, Nat.le_of_ble_eq_true rfl⟩) hK hP hD hG hS hA (va_recv hK hP (ci := 6) (q0 := 0) rfl (oh_wg (by decide) (sX_0 hT))) rfl hl.1 rfl (Nat.le_of_ble_eq_true rfl) dX6_judge_21 ⟨Nat.le_of_ble_eq_true rfl, Nat.le_of_ble_eq_true rfl⟩ (fun r_15 C_16 H locs hq_17 hP hD hS => ?_)
    obtain ⟨hT, f_18, hq_17⟩ := hq_17
    have hF := fr_tr hF f_18 (by decide) (by decide)
    refine W.widen (k := 0) (n := 0) (Nat.le_refl _) (Nat.le_refl _) ?_
    have t_19 := hT
    rw [hQ]
    exact W.iret (v := r_15) hx hb hr (fun t ht hW => ⟨⟨r_15, C_16, rfl, ⟨hT, hF, trivial⟩, ⟨by rw [ht]; exact hP, hD⟩⟩, hS.F ht⟩) hS.2.2 dX6_judge_24

set_option maxHeartbeats 4000000 in
set_option maxRecDepth 100000 in
theorem c_X6_told (l : Launch) (D : va_G) (E : Nat → ClassId) (G : Nat → Nat) (sz : Nat) (a : Nat → Nat) (C : Nat → va_E) (hT : TyX a E C) (x1 : Int32) (x2 : Int32) (x3 : Int32) (x4 : Int32) (x5 : Int32) (x6 : Int32) : Met l yX6_told (oh_w yX6_told cX6_told 8 (some .int)) ({ frames := 5, cells := 0, slots := 0, locals := 113 }) (oh_Pm D E G [.ref (a 0), .int x1, .int x2, .int x3, .int x4, .int x5, .int x6] (oh_W 35 a C) sz) (va_Qi (fun r (u : Nat → va_E) => TyX a E u ∧ fr [(7, 8), (9, 10), (24, 26), (28, 29)] [] C u ∧ True) (oh_B D (va_A (oh_W 35 a C) sz) (fun u => oh_W 35 a u)) (va_A (oh_W 35 a C) sz)) 0 0 (va_A (oh_W 35 a C) sz) := by
  refine Met.ofW (cc := cX6_told) (maxL := 8) (ret := (some .int)) (by decide) rfl ?_
  intro p e s m args below meth c s₁ B hml hv
  obtain ⟨rfl, hsz, hP, hK, hD0, hG⟩ := hv
  have hx := B.exec
  have hb := B.bytes
  have hr := B.returns
  have hts := atoms_spec (ws := (oh_w yX6_told cX6_told 8 (some .int))) B.pre
  have htg : ∀ w ∈ oh_t, w.before _ s = true := fun w h => hts w (List.mem_cons_of_mem _ h)
  have hown : s.vm.findClass RX6 = some m.cls := findClass_of_methodNamed B.named
  have hlocks := B.notSynchronized
  have hT0 := hT
  subst hsz
  have hD := hD0.self (sz := s.heap.size)
  generalize hAe : va_A (oh_W 35 a C) s.heap.size = A at hD hG ⊢
  have hA : ∀ q : Nat, s.heap.size ≤ q → A q := fun q h => by rw [← hAe]; exact Or.inr h
  have hS : va_S A s.heap s.heap [] := va_S.rf
  have hF : fr [(7, 8), (9, 10), (24, 26), (28, 29)] [] C C := fr_rf
  have hl := lv_entry ([.ref (a 0), .int x1, .int x2, .int x3, .int x4, .int x5, .int x6]) (n := 8) (Nat.le_of_ble_eq_true rfl)
  rw [lg_entry_eq]
  generalize (lg_sl ([.ref (a 0), .int x1, .int x2, .int x3, .int x4, .int x5, .int x6]) ++ List.replicate (8 - (lg_sl ([.ref (a 0), .int x1, .int x2, .int x3, .int x4, .int x5, .int x6])).length) Slot.unset).toArray = ls at hl ⊢
  have hl : lv_has ls 8 [(0, .ref (a 0)), (1, .int x1), (2, .int x2), (3, .int x3), (4, .int x4), (5, .int x5), (6, .int x6)] := hl
  refine oh_genQ (fun Q hQ => ?_)
  refine lv_iload hx hb dX6_told_0 (lv_at hl 6 rfl) ?_
  refine lv_iconst (v := 0) hx hb dX6_told_2 (by decide) ?_
  refine lv_iconst (v := 3) hx hb dX6_told_3 (by decide) ?_
  refine tq_S (As := [.int x6, .int 0, .int 3]) (rest := []) (ws := []) ⟨hx, hb, hml, hown, htg⟩ (c_X6_within l D E G x6 (0 : Int32) (3 : Int32)) (va_cwS 3 htg (oh_gS q_293 q_294 q_66 q_295) rfl rfl rfl pdX6_within ⟨Nat.le_of_ble_eq_true rfl, Nat.le_of_ble_eq_true rfl⟩) hK va_nil hG hS rfl hl.1 rfl (Nat.le_of_ble_eq_true rfl) dX6_told_4 ⟨Nat.le_of_ble_eq_true rfl, Nat.le_of_ble_eq_true rfl⟩ (fun r_1 hq_2 => ?_)
  refine lv_if_eq (tgt := 24) hx hb dX6_told_7 (by decide) (fun (c_3 : r_1 = 0) => ?_) (fun (c_3 : ¬ (r_1 = 0)) => ?_)
  · have u_4 := hq_2.2.2 c_3
    refine lv_bipush (v := (-2)) hx hb dX6_told_24 (by decide) ?_
    refine lv_istore (lv' := [(7, .int (-2)), (0, .ref (a 0)), (1, .int x1), (2, .int x2), (3, .int x3), (4, .int x4), (5, .int x5), (6, .int x6)]) hx hb dX6_told_26 hl (by decide) rfl (fun ls hl => ?_)
    refine lv_iload hx hb dX6_told_28 (lv_at hl 0 rfl) ?_
    refine lv_if_eq (tgt := 40) hx hb dX6_told_30 (by decide) (fun c => absurd c (show ¬ (((-2) : Int32) = 0) from by decide)) (fun _ => ?_)
    refine lv_aload_n hx hb dX6_told_33 rfl (lv_at hl 1 rfl) ?_
    refine lv_iload hx hb dX6_told_34 (lv_at hl 0 rfl) ?_
    refine tm_V (As := [.int (-2)]) (rest := []) ⟨hx, hb, hml, hown, htg⟩ (c_X6_refuse l D E G _ a C hT ((-2) : Int32)) (cwV 1 htg (oh_gV q_296 q_298 q_0 q_66 q_299) rfl rfl rfl pdVX6_refuse ⟨Nat.le_of_ble_eq_true rfl, Nat.le_of_ble_eq_true rfl⟩) hK hP hD hG hS hA (va_recv hK hP (ci := 6) (q0 := 0) rfl (oh_wg (by decide) (sX_0 hT))) rfl hl.1 rfl (Nat.le_of_ble_eq_true rfl) dX6_told_36 ⟨Nat.le_of_ble_eq_true rfl, Nat.le_of_ble_eq_true rfl⟩ (fun r_5 C_6 H locs hq_7 hP hD hS => ?_)
    obtain ⟨hT, f_8, hq_7⟩ := hq_7
    have hF := fr_tr hF f_8 (by decide) (by decide)
    refine W.widen (k := 0) (n := 0) (Nat.le_refl _) (Nat.le_refl _) ?_
    have t_9 := hT
    rw [hQ]
    exact W.iret (v := r_5) hx hb hr (fun t ht hW => ⟨⟨r_5, C_6, rfl, ⟨hT, hF, trivial⟩, ⟨by rw [ht]; exact hP, hD⟩⟩, hS.F ht⟩) hS.2.2 dX6_told_39
  · have u_10 := hq_2.2.1 c_3
    refine lv_aload_n hx hb dX6_told_10 rfl (lv_at hl 0 rfl) ?_
    refine lv_iload_n hx hb dX6_told_11 rfl (lv_at hl 1 rfl) ?_
    refine lv_iload_n hx hb dX6_told_12 rfl (lv_at hl 2 rfl) ?_
    refine lv_iload_n hx hb dX6_told_13 rfl (lv_at hl 3 rfl) ?_
    refine lv_iload hx hb dX6_told_14 (lv_at hl 4 rfl) ?_
    refine lv_iload hx hb dX6_told_16 (lv_at hl 5 rfl) ?_
    refine tq_V (As := [.int x1, .int x2, .int x3, .int x4, .int x5]) (rest := []) (ws := (oh_W 35 a C)) ⟨hx, hb, hml, hown, htg⟩ (c_X6_whyNotTold l D E G a C hT x1 x2 x3 x4 x5) (cwV 5 htg (oh_gV q_830 q_832 q_23 q_66 q_833) rfl rfl rfl pdVX6_whyNotTold ⟨Nat.le_of_ble_eq_true rfl, Nat.le_of_ble_eq_true rfl⟩) hK hP hG hS (va_recv hK hP (ci := 6) (q0 := 0) rfl (oh_wg (by decide) (sX_0 hT))) rfl hl.1 rfl (Nat.le_of_ble_eq_true rfl) dX6_told_18 ⟨Nat.le_of_ble_eq_true rfl, Nat.le_of_ble_eq_true rfl⟩ (fun r_11 hq_12 => ?_)
    refine lv_goto (tgt := 26) hx hb dX6_told_21 (by decide) ?_
    refine lv_istore (lv' := [(7, .int r_11), (0, .ref (a 0)), (1, .int x1), (2, .int x2), (3, .int x3), (4, .int x4), (5, .int x5), (6, .int x6)]) hx hb dX6_told_26 hl (by decide) rfl (fun ls hl => ?_)
    refine lv_iload hx hb dX6_told_28 (lv_at hl 0 rfl) ?_
    refine lv_if_eq (tgt := 40) hx hb dX6_told_30 (by decide) (fun (c_13 : r_11 = 0) => ?_) (fun (c_13 : ¬ (r_11 = 0)) => ?_)
    · have u_14 := hq_12 c_13
      refine lv_aload_n hx hb dX6_told_40 rfl (lv_at hl 1 rfl) ?_
      refine va_get (D := D) (ci := 6) (v := .ref (a 3)) (C := RX6) (T := TX6) (N := 9) hx hb htg ig_6 hown hK hP 0 (oh_wg (by decide) (sX_0 hT)) rfl 3 (by decide) (htg _ q_261) (fun _ h9 => h9) rfl dX6_told_41 ?_
      refine lv_iload_n hx hb dX6_told_44 rfl (lv_at hl 2 rfl) ?_
      refine lv_iload_n hx hb dX6_told_45 rfl (lv_at hl 3 rfl) ?_
      refine tm_Vv (As := [.int x1, .int x2]) (rest := []) ⟨hx, hb, hml, hown, htg⟩ (c_X5_survey l D E G _ a C hT x1 x2 (rg_w u_14.1 (by decide))) (cwV 2 htg (oh_gV q_750 q_751 q_752 q_68 q_753) rfl rfl rfl pdVX5_survey ⟨Nat.le_of_ble_eq_true rfl, Nat.le_of_ble_eq_true rfl⟩) hK hP hD hG hS hA (va_recv hK hP (ci := 5) (q0 := 3) rfl (oh_wg (by decide) (sX_3 hT))) rfl hl.1 rfl (Nat.le_of_ble_eq_true rfl) dX6_told_46 ⟨Nat.le_of_ble_eq_true rfl, Nat.le_of_ble_eq_true rfl⟩ (fun C_16 H locs hq_17 hP hD hS => ?_)
      obtain ⟨hT, f_18, hq_17⟩ := hq_17
      have hF := fr_tr hF f_18 (by decide) (by decide)
      refine W.widen (k := 0) (n := 0) (Nat.le_refl _) (Nat.le_refl _) ?_
      have t_19 := hT
      refine lv_aload_n hx hb dX6_told_49 rfl (lv_at hl 1 rfl) ?_
      refine lv_iload_n hx hb dX6_told_50 rfl (lv_at hl 4 rfl) ?_
      refine lv_iload hx hb dX6_told_51 (lv_at hl 5 rfl) ?_
      refine lv_iload hx hb dX6_told_53 (lv_at hl 6 rfl) ?_
      refine tm_V (As := [.int x3, .int x4, .int x5]) (rest := []) ⟨hx, hb, hml, hown, htg⟩ (c_X6_firstWrong l D E G _ a C_16 hT x3 x4 x5 (rg_w u_14.2.1 (by decide)) (rg_w u_14.2.2.1 (by decide)) (rg_w u_14.2.2.2 (by decide))) (cwV 3 htg (oh_gV q_834 q_836 q_24 q_66 q_837) rfl rfl rfl pdVX6_firstWrong ⟨Nat.le_of_ble_eq_true rfl, Nat.le_of_ble_eq_true rfl⟩) hK hP hD hG hS hA (va_recv hK hP (ci := 6) (q0 := 0) rfl (oh_wg (by decide) (sX_0 hT))) rfl hl.1 rfl (Nat.le_of_ble_eq_true rfl) dX6_told_55 ⟨Nat.le_of_ble_eq_true rfl, Nat.le_of_ble_eq_true rfl⟩ (fun r_20 C_21 H locs hq_22 hP hD hS => ?_)
      obtain ⟨hT, f_23, hq_22⟩ := hq_22
      have hF := fr_tr hF f_23 (by decide) (by decide)
      refine W.widen (k := 0) (n := 0) (Nat.le_refl _) (Nat.le_refl _) ?_
      have t_24 := hT
      refine lv_iconst (v := (-1)) hx hb dX6_told_58 (by decide) ?_
      refine lv_icmp_eq (tgt := 69) hx hb dX6_told_59 (by decide) (fun (c_25 : r_20 = (-1)) => ?_) (fun (c_25 : ¬ (r_20 = (-1))) => ?_)
      · refine lv_iload hx hb dX6_told_69 (lv_at hl 7 rfl) ?_
        refine lv_iconst (v := 2) hx hb dX6_told_71 (by decide) ?_
        refine lv_icmp_ne (tgt := 90) hx hb dX6_told_72 (by decide) (fun (c_26 : ¬ (x6 = 2)) => ?_) (fun (c_26 : x6 = 2) => ?_)
        · refine lv_aload_n hx hb dX6_told_90 rfl (lv_at hl 1 rfl) ?_
          refine va_get (D := D) (ci := 6) (v := .ref (a 3)) (C := RX6) (T := TX6) (N := 9) hx hb htg ig_6 hown hK hP 0 (oh_wg (by decide) (sX_0 hT)) rfl 3 (by decide) (htg _ q_261) (fun _ h9 => h9) rfl dX6_told_91 ?_
          refine va_get (D := D) (ci := 5) (v := .ref (a 28)) (C := RX5) (T := TX5) (N := 7) hx hb htg ig_5 hown hK hP 3 (oh_wg (by decide) (sX_3 hT)) rfl 6 (by decide) (htg _ q_176) (fun _ h9 => h9) rfl dX6_told_94 ?_
          refine lv_iload hx hb dX6_told_97 (lv_at hl 7 rfl) ?_
          have n_27 : vp_in x6 4 := (rg_in (rn_leu u_10.2 (rn_lel u_10.1 (rg_c (v := 0) (lo := 0) (hi := 0) (by decide)) (rg_any _)) (rg_c (v := 3) (lo := 3) (hi := 3) (by decide))) (by decide))
          refine th_iald hx hb hK hP 28 (by decide) (sX_28 hT) n_27 dX6_told_99 ?_
          rw [hQ]
          exact W.iret (v := ga (C_21 28) (x6).toNatClampNeg) hx hb hr (fun t ht hW => ⟨⟨ga (C_21 28) (x6).toNatClampNeg, C_21, rfl, ⟨hT, hF, trivial⟩, ⟨by rw [ht]; exact hP, hD⟩⟩, hS.F ht⟩) hS.2.2 dX6_told_100
        · refine lv_aload_n hx hb dX6_told_75 rfl (lv_at hl 1 rfl) ?_
          refine va_get (D := D) (ci := 6) (v := .ref (a 3)) (C := RX6) (T := TX6) (N := 9) hx hb htg ig_6 hown hK hP 0 (oh_wg (by decide) (sX_0 hT)) rfl 3 (by decide) (htg _ q_261) (fun _ h9 => h9) rfl dX6_told_76 ?_
          refine va_get (D := D) (ci := 5) (v := .ref (a 28)) (C := RX5) (T := TX5) (N := 7) hx hb htg ig_5 hown hK hP 3 (oh_wg (by decide) (sX_3 hT)) rfl 6 (by decide) (htg _ q_176) (fun _ h9 => h9) rfl dX6_told_79 ?_
          refine lv_iconst (v := 2) hx hb dX6_told_82 (by decide) ?_
          refine th_iald hx hb hK hP 28 (by decide) (sX_28 hT) (rg_in (rg_c (v := 2) (lo := 2) (hi := 2) (by decide)) (by decide)) dX6_told_83 ?_
          refine tq_S (As := [.int (ga (C_21 28) ((2 : Int32)).toNatClampNeg)]) (rest := []) (ws := []) ⟨hx, hb, hml, hown, htg⟩ (c_J6_bitCount_0f7a4 l D E G (ga (C_21 28) ((2 : Int32)).toNatClampNeg)) (va_cwS 1 htg (oh_gS q_854 q_855 q_80 q_856) rfl rfl rfl pdJ6_bitCount_0f7a4 ⟨Nat.le_of_ble_eq_true rfl, Nat.le_of_ble_eq_true rfl⟩) hK va_nil hG hS rfl hl.1 rfl (Nat.le_of_ble_eq_true rfl) dX6_told_84 ⟨Nat.le_of_ble_eq_true rfl, Nat.le_of_ble_eq_true rfl⟩ (fun r_28 hq_29 => ?_)
          refine lv_goto (tgt := 100) hx hb dX6_told_87 (by decide) ?_
          rw [hQ]
          exact W.iret (v := r_28) hx hb hr (fun t ht hW => ⟨⟨r_28, C_21, rfl, ⟨hT, hF, trivial⟩, ⟨by rw [ht]; exact hP, hD⟩⟩, hS.F ht⟩) hS.2.2 dX6_told_100
      · refine lv_aload_n hx hb dX6_told_62 rfl (lv_at hl 1 rfl) ?_
        refine lv_bipush (v := (-5)) hx hb dX6_told_63 (by decide) ?_
        refine tm_V (As := [.int (-5)]) (rest := []) ⟨hx, hb, hml, hown, htg⟩ (c_X6_refuse l D E G _ a C_21 hT ((-5) : Int32)) (cwV 1 htg (oh_gV q_296 q_298 q_0 q_66 q_299) rfl rfl rfl pdVX6_refuse ⟨Nat.le_of_ble_eq_true rfl, Nat.le_of_ble_eq_true rfl⟩) hK hP hD hG hS hA (va_recv hK hP (ci := 6) (q0 := 0) rfl (oh_wg (by decide) (sX_0 hT))) rfl hl.1 rfl (Nat.le_of_ble_eq_true rfl) dX6_told_65 ⟨Nat.le_of_ble_eq_true rfl, Nat.le_of_ble_eq_true rfl⟩ (fun r_30 C_31 H locs hq_32 hP hD hS => ?_)
        obtain ⟨hT, f_33, hq_32⟩ := hq_32
        have hF := fr_tr hF f_33 (by decide) (by decide)
        refine W.widen (k := 0) (n := 0) (Nat.le_refl _) (Nat.le_refl _) ?_
        have t_34 := hT
        rw [hQ]
        exact W.iret (v := r_30) hx hb hr (fun t ht hW => ⟨⟨r_30, C_31, rfl, ⟨hT, hF, trivial⟩, ⟨by rw [ht]; exact hP, hD⟩⟩, hS.F ht⟩) hS.2.2 dX6_told_68
    · refine lv_aload_n hx hb dX6_told_33 rfl (lv_at hl 1 rfl) ?_
      refine lv_iload hx hb dX6_told_34 (lv_at hl 0 rfl) ?_
      refine tm_V (As := [.int r_11]) (rest := []) ⟨hx, hb, hml, hown, htg⟩ (c_X6_refuse l D E G _ a C hT r_11) (cwV 1 htg (oh_gV q_296 q_298 q_0 q_66 q_299) rfl rfl rfl pdVX6_refuse ⟨Nat.le_of_ble_eq_true rfl, Nat.le_of_ble_eq_true rfl⟩) hK hP hD hG hS hA (va_recv hK hP (ci := 6) (q0 := 0) rfl (oh_wg (by decide) (sX_0 hT))) rfl hl.1 rfl (Nat.le_of_ble_eq_true rfl) dX6_told_36 ⟨Nat.le_of_ble_eq_true rfl, Nat.le_of_ble_eq_true rfl⟩ (fun r_35 C_36 H locs hq_37 hP hD hS => ?_)
      obtain ⟨hT, f_38, hq_37⟩ := hq_37
      have hF := fr_tr hF f_38 (by decide) (by decide)
      refine W.widen (k := 0) (n := 0) (Nat.le_refl _) (Nat.le_refl _) ?_
      have t_39 := hT
      rw [hQ]
      exact W.iret (v := r_35) hx hb hr (fun t ht hW => ⟨⟨r_35, C_36, rfl, ⟨hT, hF, trivial⟩, ⟨by rw [ht]; exact hP, hD⟩⟩, hS.F ht⟩) hS.2.2 dX6_told_39

set_option maxHeartbeats 4000000 in
set_option maxRecDepth 100000 in
theorem c_X6_reach (l : Launch) (D : va_G) (E : Nat → ClassId) (G : Nat → Nat) (sz : Nat) (a : Nat → Nat) (C : Nat → va_E) (hT : TyX a E C) (x1 : Int32) (x2 : Int32) (x3 : Int32) : Met l yX6_reach (oh_w yX6_reach cX6_reach 4 (some .int)) ({ frames := 5, cells := 0, slots := 0, locals := 125 }) (oh_Pm D E G [.ref (a 0), .int x1, .int x2, .int x3] (oh_W 35 a C) sz) (va_Qi (fun r (u : Nat → va_E) => TyX a E u ∧ fr [(7, 8), (9, 10), (24, 28)] [] C u ∧ True) (oh_B D (va_A (oh_W 35 a C) sz) (fun u => oh_W 35 a u)) (va_A (oh_W 35 a C) sz)) 0 0 (va_A (oh_W 35 a C) sz) := by
  refine Met.ofW (cc := cX6_reach) (maxL := 4) (ret := (some .int)) (by decide) rfl ?_
  intro p e s m args below meth c s₁ B hml hv
  obtain ⟨rfl, hsz, hP, hK, hD0, hG⟩ := hv
  have hx := B.exec
  have hb := B.bytes
  have hr := B.returns
  have hts := atoms_spec (ws := (oh_w yX6_reach cX6_reach 4 (some .int))) B.pre
  have htg : ∀ w ∈ oh_t, w.before _ s = true := fun w h => hts w (List.mem_cons_of_mem _ h)
  have hown : s.vm.findClass RX6 = some m.cls := findClass_of_methodNamed B.named
  have hlocks := B.notSynchronized
  have hT0 := hT
  subst hsz
  have hD := hD0.self (sz := s.heap.size)
  generalize hAe : va_A (oh_W 35 a C) s.heap.size = A at hD hG ⊢
  have hA : ∀ q : Nat, s.heap.size ≤ q → A q := fun q h => by rw [← hAe]; exact Or.inr h
  have hS : va_S A s.heap s.heap [] := va_S.rf
  have hF : fr [(7, 8), (9, 10), (24, 28)] [] C C := fr_rf
  have hl := lv_entry ([.ref (a 0), .int x1, .int x2, .int x3]) (n := 4) (Nat.le_of_ble_eq_true rfl)
  rw [lg_entry_eq]
  generalize (lg_sl ([.ref (a 0), .int x1, .int x2, .int x3]) ++ List.replicate (4 - (lg_sl ([.ref (a 0), .int x1, .int x2, .int x3])).length) Slot.unset).toArray = ls at hl ⊢
  have hl : lv_has ls 4 [(0, .ref (a 0)), (1, .int x1), (2, .int x2), (3, .int x3)] := hl
  refine oh_genQ (fun Q hQ => ?_)
  refine lv_aload_n hx hb dX6_reach_0 rfl (lv_at hl 0 rfl) ?_
  refine lv_iload_n hx hb dX6_reach_1 rfl (lv_at hl 1 rfl) ?_
  refine lv_iload_n hx hb dX6_reach_2 rfl (lv_at hl 2 rfl) ?_
  refine tq_V (As := [.int x1, .int x2]) (rest := []) (ws := (oh_W 35 a C)) ⟨hx, hb, hml, hown, htg⟩ (c_X6_isPack l D E G a C hT x1 x2) (cwV 2 htg (oh_gV q_695 q_697 q_16 q_66 q_698) rfl rfl rfl pdVX6_isPack ⟨Nat.le_of_ble_eq_true rfl, Nat.le_of_ble_eq_true rfl⟩) hK hP hG hS (va_recv hK hP (ci := 6) (q0 := 0) rfl (oh_wg (by decide) (sX_0 hT))) rfl hl.1 rfl (Nat.le_of_ble_eq_true rfl) dX6_reach_3 ⟨Nat.le_of_ble_eq_true rfl, Nat.le_of_ble_eq_true rfl⟩ (fun r_1 hq_2 => ?_)
  refine lv_if_eq (tgt := 16) hx hb dX6_reach_6 (by decide) (fun (c_3 : r_1 = 0) => ?_) (fun (c_3 : ¬ (r_1 = 0)) => ?_)
  · refine lv_aload_n hx hb dX6_reach_16 rfl (lv_at hl 0 rfl) ?_
    refine lv_bipush (v := (-2)) hx hb dX6_reach_17 (by decide) ?_
    refine tm_V (As := [.int (-2)]) (rest := []) ⟨hx, hb, hml, hown, htg⟩ (c_X6_refuse l D E G _ a C hT ((-2) : Int32)) (cwV 1 htg (oh_gV q_296 q_298 q_0 q_66 q_299) rfl rfl rfl pdVX6_refuse ⟨Nat.le_of_ble_eq_true rfl, Nat.le_of_ble_eq_true rfl⟩) hK hP hD hG hS hA (va_recv hK hP (ci := 6) (q0 := 0) rfl (oh_wg (by decide) (sX_0 hT))) rfl hl.1 rfl (Nat.le_of_ble_eq_true rfl) dX6_reach_19 ⟨Nat.le_of_ble_eq_true rfl, Nat.le_of_ble_eq_true rfl⟩ (fun r_4 C_5 H locs hq_6 hP hD hS => ?_)
    obtain ⟨hT, f_7, hq_6⟩ := hq_6
    have hF := fr_tr hF f_7 (by decide) (by decide)
    refine W.widen (k := 0) (n := 0) (Nat.le_refl _) (Nat.le_refl _) ?_
    have t_8 := hT
    rw [hQ]
    exact W.iret (v := r_4) hx hb hr (fun t ht hW => ⟨⟨r_4, C_5, rfl, ⟨hT, hF, trivial⟩, ⟨by rw [ht]; exact hP, hD⟩⟩, hS.F ht⟩) hS.2.2 dX6_reach_22
  · have u_9 := hq_2.2 c_3
    refine lv_iload_n hx hb dX6_reach_9 rfl (lv_at hl 3 rfl) ?_
    refine tq_S (As := [.int x3]) (rest := []) (ws := []) ⟨hx, hb, hml, hown, htg⟩ (c_X6_isPlace l D E G x3) (va_cwS 1 htg (oh_gS q_413 q_414 q_66 q_415) rfl rfl rfl pdX6_isPlace ⟨Nat.le_of_ble_eq_true rfl, Nat.le_of_ble_eq_true rfl⟩) hK va_nil hG hS rfl hl.1 rfl (Nat.le_of_ble_eq_true rfl) dX6_reach_10 ⟨Nat.le_of_ble_eq_true rfl, Nat.le_of_ble_eq_true rfl⟩ (fun r_10 hq_11 => ?_)
    refine lv_if_ne (tgt := 23) hx hb dX6_reach_13 (by decide) (fun (c_12 : ¬ (r_10 = 0)) => ?_) (fun (c_12 : r_10 = 0) => ?_)
    · have u_13 := hq_11.2 c_12
      refine lv_aload_n hx hb dX6_reach_23 rfl (lv_at hl 0 rfl) ?_
      refine va_get (D := D) (ci := 6) (v := .ref (a 3)) (C := RX6) (T := TX6) (N := 9) hx hb htg ig_6 hown hK hP 0 (oh_wg (by decide) (sX_0 hT)) rfl 3 (by decide) (htg _ q_261) (fun _ h9 => h9) rfl dX6_reach_24 ?_
      refine lv_iload_n hx hb dX6_reach_27 rfl (lv_at hl 1 rfl) ?_
      refine lv_iload_n hx hb dX6_reach_28 rfl (lv_at hl 2 rfl) ?_
      refine lv_iload_n hx hb dX6_reach_29 rfl (lv_at hl 3 rfl) ?_
      refine tm_V (As := [.int x1, .int x2, .int x3]) (rest := []) ⟨hx, hb, hml, hown, htg⟩ (c_X5_reached l D E G _ a C hT x1 x2 x3 (rg_w u_9 (by decide)) (rg_w u_13 (by decide))) (cwV 3 htg (oh_gV q_864 q_865 q_866 q_68 q_867) rfl rfl rfl pdVX5_reached ⟨Nat.le_of_ble_eq_true rfl, Nat.le_of_ble_eq_true rfl⟩) hK hP hD hG hS hA (va_recv hK hP (ci := 5) (q0 := 3) rfl (oh_wg (by decide) (sX_3 hT))) rfl hl.1 rfl (Nat.le_of_ble_eq_true rfl) dX6_reach_30 ⟨Nat.le_of_ble_eq_true rfl, Nat.le_of_ble_eq_true rfl⟩ (fun r_14 C_15 H locs hq_16 hP hD hS => ?_)
      obtain ⟨hT, f_17, hq_16⟩ := hq_16
      have hF := fr_tr hF f_17 (by decide) (by decide)
      refine W.widen (k := 0) (n := 0) (Nat.le_refl _) (Nat.le_refl _) ?_
      have t_18 := hT
      rw [hQ]
      exact W.iret (v := r_14) hx hb hr (fun t ht hW => ⟨⟨r_14, C_15, rfl, ⟨hT, hF, trivial⟩, ⟨by rw [ht]; exact hP, hD⟩⟩, hS.F ht⟩) hS.2.2 dX6_reach_33
    · refine lv_aload_n hx hb dX6_reach_16 rfl (lv_at hl 0 rfl) ?_
      refine lv_bipush (v := (-2)) hx hb dX6_reach_17 (by decide) ?_
      refine tm_V (As := [.int (-2)]) (rest := []) ⟨hx, hb, hml, hown, htg⟩ (c_X6_refuse l D E G _ a C hT ((-2) : Int32)) (cwV 1 htg (oh_gV q_296 q_298 q_0 q_66 q_299) rfl rfl rfl pdVX6_refuse ⟨Nat.le_of_ble_eq_true rfl, Nat.le_of_ble_eq_true rfl⟩) hK hP hD hG hS hA (va_recv hK hP (ci := 6) (q0 := 0) rfl (oh_wg (by decide) (sX_0 hT))) rfl hl.1 rfl (Nat.le_of_ble_eq_true rfl) dX6_reach_19 ⟨Nat.le_of_ble_eq_true rfl, Nat.le_of_ble_eq_true rfl⟩ (fun r_19 C_20 H locs hq_21 hP hD hS => ?_)
      obtain ⟨hT, f_22, hq_21⟩ := hq_21
      have hF := fr_tr hF f_22 (by decide) (by decide)
      refine W.widen (k := 0) (n := 0) (Nat.le_refl _) (Nat.le_refl _) ?_
      have t_23 := hT
      rw [hQ]
      exact W.iret (v := r_19) hx hb hr (fun t ht hW => ⟨⟨r_19, C_20, rfl, ⟨hT, hF, trivial⟩, ⟨by rw [ht]; exact hP, hD⟩⟩, hS.F ht⟩) hS.2.2 dX6_reach_22

set_option maxHeartbeats 4000000 in
set_option maxRecDepth 100000 in
theorem c_X6_fewest (l : Launch) (D : va_G) (E : Nat → ClassId) (G : Nat → Nat) (sz : Nat) (a : Nat → Nat) (C : Nat → va_E) (hT : TyX a E C) (x1 : Int32) (x2 : Int32) (x3 : Int32) : Met l yX6_fewest (oh_w yX6_fewest cX6_fewest 7 (some .int)) ({ frames := 5, cells := 0, slots := 0, locals := 124 }) (oh_Pm D E G [.ref (a 0), .int x1, .int x2, .int x3] (oh_W 35 a C) sz) (va_Qi (fun r (u : Nat → va_E) => TyX a E u ∧ fr [(7, 8), (9, 10), (24, 28)] [] C u ∧ True) (oh_B D (va_A (oh_W 35 a C) sz) (fun u => oh_W 35 a u)) (va_A (oh_W 35 a C) sz)) 0 0 (va_A (oh_W 35 a C) sz) := by
  refine Met.ofW (cc := cX6_fewest) (maxL := 7) (ret := (some .int)) (by decide) rfl ?_
  intro p e s m args below meth c s₁ B hml hv
  obtain ⟨rfl, hsz, hP, hK, hD0, hG⟩ := hv
  have hx := B.exec
  have hb := B.bytes
  have hr := B.returns
  have hts := atoms_spec (ws := (oh_w yX6_fewest cX6_fewest 7 (some .int))) B.pre
  have htg : ∀ w ∈ oh_t, w.before _ s = true := fun w h => hts w (List.mem_cons_of_mem _ h)
  have hown : s.vm.findClass RX6 = some m.cls := findClass_of_methodNamed B.named
  have hlocks := B.notSynchronized
  have hT0 := hT
  subst hsz
  have hD := hD0.self (sz := s.heap.size)
  generalize hAe : va_A (oh_W 35 a C) s.heap.size = A at hD hG ⊢
  have hA : ∀ q : Nat, s.heap.size ≤ q → A q := fun q h => by rw [← hAe]; exact Or.inr h
  have hS : va_S A s.heap s.heap [] := va_S.rf
  have hF : fr [(7, 8), (9, 10), (24, 28)] [] C C := fr_rf
  have hl := lv_entry ([.ref (a 0), .int x1, .int x2, .int x3]) (n := 7) (Nat.le_of_ble_eq_true rfl)
  rw [lg_entry_eq]
  generalize (lg_sl ([.ref (a 0), .int x1, .int x2, .int x3]) ++ List.replicate (7 - (lg_sl ([.ref (a 0), .int x1, .int x2, .int x3])).length) Slot.unset).toArray = ls at hl ⊢
  have hl : lv_has ls 7 [(0, .ref (a 0)), (1, .int x1), (2, .int x2), (3, .int x3)] := hl
  refine oh_genQ (fun Q hQ => ?_)
  refine lv_aload_n hx hb dX6_fewest_0 rfl (lv_at hl 0 rfl) ?_
  refine lv_iload_n hx hb dX6_fewest_1 rfl (lv_at hl 1 rfl) ?_
  refine tq_V (As := [.int x1]) (rest := []) (ws := (oh_W 35 a C)) ⟨hx, hb, hml, hown, htg⟩ (c_X6_isWaggon l D E G a C hT x1) (cwV 1 htg (oh_gV q_679 q_681 q_15 q_66 q_682) rfl rfl rfl pdVX6_isWaggon ⟨Nat.le_of_ble_eq_true rfl, Nat.le_of_ble_eq_true rfl⟩) hK hP hG hS (va_recv hK hP (ci := 6) (q0 := 0) rfl (oh_wg (by decide) (sX_0 hT))) rfl hl.1 rfl (Nat.le_of_ble_eq_true rfl) dX6_fewest_2 ⟨Nat.le_of_ble_eq_true rfl, Nat.le_of_ble_eq_true rfl⟩ (fun r_1 hq_2 => ?_)
  refine lv_if_eq (tgt := 22) hx hb dX6_fewest_5 (by decide) (fun (c_3 : r_1 = 0) => ?_) (fun (c_3 : ¬ (r_1 = 0)) => ?_)
  · refine lv_aload_n hx hb dX6_fewest_22 rfl (lv_at hl 0 rfl) ?_
    refine lv_bipush (v := (-2)) hx hb dX6_fewest_23 (by decide) ?_
    refine tm_V (As := [.int (-2)]) (rest := []) ⟨hx, hb, hml, hown, htg⟩ (c_X6_refuse l D E G _ a C hT ((-2) : Int32)) (cwV 1 htg (oh_gV q_296 q_298 q_0 q_66 q_299) rfl rfl rfl pdVX6_refuse ⟨Nat.le_of_ble_eq_true rfl, Nat.le_of_ble_eq_true rfl⟩) hK hP hD hG hS hA (va_recv hK hP (ci := 6) (q0 := 0) rfl (oh_wg (by decide) (sX_0 hT))) rfl hl.1 rfl (Nat.le_of_ble_eq_true rfl) dX6_fewest_25 ⟨Nat.le_of_ble_eq_true rfl, Nat.le_of_ble_eq_true rfl⟩ (fun r_4 C_5 H locs hq_6 hP hD hS => ?_)
    obtain ⟨hT, f_7, hq_6⟩ := hq_6
    have hF := fr_tr hF f_7 (by decide) (by decide)
    refine W.widen (k := 0) (n := 0) (Nat.le_refl _) (Nat.le_refl _) ?_
    have t_8 := hT
    rw [hQ]
    exact W.iret (v := r_4) hx hb hr (fun t ht hW => ⟨⟨r_4, C_5, rfl, ⟨hT, hF, trivial⟩, ⟨by rw [ht]; exact hP, hD⟩⟩, hS.F ht⟩) hS.2.2 dX6_fewest_28
  · have u_9 := hq_2.2 c_3
    refine lv_iload_n hx hb dX6_fewest_8 rfl (lv_at hl 2 rfl) ?_
    refine tq_S (As := [.int x2]) (rest := []) (ws := []) ⟨hx, hb, hml, hown, htg⟩ (c_X6_isPlace l D E G x2) (va_cwS 1 htg (oh_gS q_413 q_414 q_66 q_415) rfl rfl rfl pdX6_isPlace ⟨Nat.le_of_ble_eq_true rfl, Nat.le_of_ble_eq_true rfl⟩) hK va_nil hG hS rfl hl.1 rfl (Nat.le_of_ble_eq_true rfl) dX6_fewest_9 ⟨Nat.le_of_ble_eq_true rfl, Nat.le_of_ble_eq_true rfl⟩ (fun r_10 hq_11 => ?_)
    refine lv_if_eq (tgt := 22) hx hb dX6_fewest_12 (by decide) (fun (c_12 : r_10 = 0) => ?_) (fun (c_12 : ¬ (r_10 = 0)) => ?_)
    · refine lv_aload_n hx hb dX6_fewest_22 rfl (lv_at hl 0 rfl) ?_
      refine lv_bipush (v := (-2)) hx hb dX6_fewest_23 (by decide) ?_
      refine tm_V (As := [.int (-2)]) (rest := []) ⟨hx, hb, hml, hown, htg⟩ (c_X6_refuse l D E G _ a C hT ((-2) : Int32)) (cwV 1 htg (oh_gV q_296 q_298 q_0 q_66 q_299) rfl rfl rfl pdVX6_refuse ⟨Nat.le_of_ble_eq_true rfl, Nat.le_of_ble_eq_true rfl⟩) hK hP hD hG hS hA (va_recv hK hP (ci := 6) (q0 := 0) rfl (oh_wg (by decide) (sX_0 hT))) rfl hl.1 rfl (Nat.le_of_ble_eq_true rfl) dX6_fewest_25 ⟨Nat.le_of_ble_eq_true rfl, Nat.le_of_ble_eq_true rfl⟩ (fun r_13 C_14 H locs hq_15 hP hD hS => ?_)
      obtain ⟨hT, f_16, hq_15⟩ := hq_15
      have hF := fr_tr hF f_16 (by decide) (by decide)
      refine W.widen (k := 0) (n := 0) (Nat.le_refl _) (Nat.le_refl _) ?_
      have t_17 := hT
      rw [hQ]
      exact W.iret (v := r_13) hx hb hr (fun t ht hW => ⟨⟨r_13, C_14, rfl, ⟨hT, hF, trivial⟩, ⟨by rw [ht]; exact hP, hD⟩⟩, hS.F ht⟩) hS.2.2 dX6_fewest_28
    · have u_18 := hq_11.2 c_12
      refine lv_iload_n hx hb dX6_fewest_15 rfl (lv_at hl 3 rfl) ?_
      refine tq_S (As := [.int x3]) (rest := []) (ws := []) ⟨hx, hb, hml, hown, htg⟩ (c_X6_isPlace l D E G x3) (va_cwS 1 htg (oh_gS q_413 q_414 q_66 q_415) rfl rfl rfl pdX6_isPlace ⟨Nat.le_of_ble_eq_true rfl, Nat.le_of_ble_eq_true rfl⟩) hK va_nil hG hS rfl hl.1 rfl (Nat.le_of_ble_eq_true rfl) dX6_fewest_16 ⟨Nat.le_of_ble_eq_true rfl, Nat.le_of_ble_eq_true rfl⟩ (fun r_19 hq_20 => ?_)
      refine lv_if_ne (tgt := 29) hx hb dX6_fewest_19 (by decide) (fun (c_21 : ¬ (r_19 = 0)) => ?_) (fun (c_21 : r_19 = 0) => ?_)
      · have u_22 := hq_20.2 c_21
        refine lv_iconst (v := (-1)) hx hb dX6_fewest_29 (by decide) ?_
        refine lv_istore (lv' := [(4, .int (-1)), (0, .ref (a 0)), (1, .int x1), (2, .int x2), (3, .int x3)]) hx hb dX6_fewest_30 hl (by decide) rfl (fun ls hl => ?_)
        refine va_gets hx hb hG.2.2.2.1.1 hS hown (htg _ q_880) (fun _ h9 => h9) dX6_fewest_32 ?_
        refine lv_iconst (v := 3) hx hb dX6_fewest_35 (by decide) ?_
        refine va_ti (v := .int 5) hx hb hG.2.2.2.1.2 hS (rg_in (rg_c (v := 3) (lo := 3) (hi := 3) (by decide)) (by decide)) (by decide) dX6_fewest_36 ?_
        refine lv_iconst (v := 1) hx hb dX6_fewest_37 (by decide) ?_
        refine lv_iadd hx hb dX6_fewest_38 ?_
        refine oh_nrm (v := 6) (by decide) ?_
        refine lv_istore (lv' := [(5, .int 6), (4, .int (-1)), (0, .ref (a 0)), (1, .int x1), (2, .int x2), (3, .int x3)]) hx hb dX6_fewest_39 hl (by decide) rfl (fun ls hl => ?_)
        refine lv_iconst (v := 0) hx hb dX6_fewest_41 (by decide) ?_
        refine lv_istore (lv' := [(6, .int 0), (5, .int 6), (4, .int (-1)), (0, .ref (a 0)), (1, .int x1), (2, .int x2), (3, .int x3)]) hx hb dX6_fewest_42 hl (by decide) rfl (fun ls hl => ?_)
        have L_44 : ∀ (d : Nat) (K44 : Nat → va_E) (z44_6 : Int32) (z44_5 : Int32) (z44_4 : Int32) (H : Heap) (locs : List Loc) (ls : Array Slot), (32 - z44_6.toInt).toNat = d → rg z44_6 0 32 → TyX a E K44 → fr [(7, 8), (9, 10), (24, 28)] [] C K44 → fr [(9, 10), (24, 28)] [] C K44 → va_P D vwCl (oh_W 35 a K44) H → va_D A (oh_W 35 a K44) → va_S A s.heap H locs → lv_has ls 7 [(6, .int z44_6), (5, .int z44_5), (4, .int z44_4), (0, .ref (a 0)), (1, .int x1), (2, .int x2), (3, .int x3)] → W p l e ({ frames := 5, cells := 0, slots := 0, locals := 124 }) s m (([.ref (a 0), .int x1, .int x2, .int x3] : List Value).toArray) below meth c H locs 0 0 Q (F0 m 44 ls []) := by
          intro d
          induction d using Nat.strongRecOn with
          | ind d ih_44 =>
          intro K44 z44_6 z44_5 z44_4 H locs ls hd_44 hz44_6 hT hF hLF_44 hP hD hS hl
          have t_23 := hT
          refine lv_iload hx hb dX6_fewest_44 (lv_at hl 0 rfl) ?_
          refine lv_aload_n hx hb dX6_fewest_46 rfl (lv_at hl 3 rfl) ?_
          refine va_get (D := D) (ci := 6) (v := .ref (a 1)) (C := RX6) (T := TX6) (N := 9) hx hb htg ig_6 hown hK hP 0 (oh_wg (by decide) (sX_0 hT)) rfl 0 (by decide) (htg _ q_258) (fun _ h9 => h9) rfl dX6_fewest_47 ?_
          refine tq_V (As := []) (rest := [.int z44_6]) (ws := (oh_W 35 a K44)) ⟨hx, hb, hml, hown, htg⟩ (c_X0_setsOfParts l D E G a K44 hT) (cwV 0 htg (oh_gV q_699 q_700 q_701 q_67 q_702) rfl rfl rfl pdVX0_setsOfParts ⟨Nat.le_of_ble_eq_true rfl, Nat.le_of_ble_eq_true rfl⟩) hK hP hG hS (va_recv hK hP (ci := 0) (q0 := 1) rfl (oh_wg (by decide) (sX_1 hT))) rfl hl.1 rfl (Nat.le_of_ble_eq_true rfl) dX6_fewest_50 ⟨Nat.le_of_ble_eq_true rfl, Nat.le_of_ble_eq_true rfl⟩ (fun r_24 hq_25 => ?_)
          refine lv_icmp_ge (tgt := 98) hx hb dX6_fewest_53 (by decide) (fun (c_26 : r_24 ≤ z44_6) => ?_) (fun (c_26 : ¬ (r_24 ≤ z44_6)) => ?_)
          · refine lv_iload hx hb dX6_fewest_98 (lv_at hl 2 rfl) ?_
            refine lv_iconst (v := (-1)) hx hb dX6_fewest_100 (by decide) ?_
            refine lv_icmp_ne (tgt := 113) hx hb dX6_fewest_101 (by decide) (fun (c_27 : ¬ (z44_4 = (-1))) => ?_) (fun (c_27 : z44_4 = (-1)) => ?_)
            · refine lv_iload hx hb dX6_fewest_113 (lv_at hl 2 rfl) ?_
              rw [hQ]
              exact W.iret (v := z44_4) hx hb hr (fun t ht hW => ⟨⟨z44_4, K44, rfl, ⟨hT, hF, trivial⟩, ⟨by rw [ht]; exact hP, hD⟩⟩, hS.F ht⟩) hS.2.2 dX6_fewest_115
            · refine lv_aload_n hx hb dX6_fewest_104 rfl (lv_at hl 3 rfl) ?_
              refine lv_bipush (v := (-5)) hx hb dX6_fewest_105 (by decide) ?_
              refine tm_V (As := [.int (-5)]) (rest := []) ⟨hx, hb, hml, hown, htg⟩ (c_X6_refuse l D E G _ a K44 hT ((-5) : Int32)) (cwV 1 htg (oh_gV q_296 q_298 q_0 q_66 q_299) rfl rfl rfl pdVX6_refuse ⟨Nat.le_of_ble_eq_true rfl, Nat.le_of_ble_eq_true rfl⟩) hK hP hD hG hS hA (va_recv hK hP (ci := 6) (q0 := 0) rfl (oh_wg (by decide) (sX_0 hT))) rfl hl.1 rfl (Nat.le_of_ble_eq_true rfl) dX6_fewest_107 ⟨Nat.le_of_ble_eq_true rfl, Nat.le_of_ble_eq_true rfl⟩ (fun r_28 C_29 H locs hq_30 hP hD hS => ?_)
              obtain ⟨hT, f_31, hq_30⟩ := hq_30
              have hF := fr_tr hF f_31 (by decide) (by decide)
              refine W.widen (k := 0) (n := 0) (Nat.le_refl _) (Nat.le_refl _) ?_
              have t_32 := hT
              refine lv_goto (tgt := 115) hx hb dX6_fewest_110 (by decide) ?_
              rw [hQ]
              exact W.iret (v := r_28) hx hb hr (fun t ht hW => ⟨⟨r_28, C_29, rfl, ⟨hT, hF, trivial⟩, ⟨by rw [ht]; exact hP, hD⟩⟩, hS.F ht⟩) hS.2.2 dX6_fewest_115
          · refine lv_iload hx hb dX6_fewest_56 (lv_at hl 0 rfl) ?_
            refine tq_S (As := [.int z44_6]) (rest := []) (ws := []) ⟨hx, hb, hml, hown, htg⟩ (c_J6_bitCount_0f7a4 l D E G z44_6) (va_cwS 1 htg (oh_gS q_854 q_855 q_80 q_856) rfl rfl rfl pdJ6_bitCount_0f7a4 ⟨Nat.le_of_ble_eq_true rfl, Nat.le_of_ble_eq_true rfl⟩) hK va_nil hG hS rfl hl.1 rfl (Nat.le_of_ble_eq_true rfl) dX6_fewest_58 ⟨Nat.le_of_ble_eq_true rfl, Nat.le_of_ble_eq_true rfl⟩ (fun r_33 hq_34 => ?_)
            refine lv_iload hx hb dX6_fewest_61 (lv_at hl 1 rfl) ?_
            refine lv_icmp_ge (tgt := 92) hx hb dX6_fewest_63 (by decide) (fun (c_35 : z44_5 ≤ r_33) => ?_) (fun (c_35 : ¬ (z44_5 ≤ r_33)) => ?_)
            · refine lv_iinc (v := z44_6 + 1) (lv' := [(6, .int (z44_6 + 1)), (5, .int z44_5), (4, .int z44_4), (0, .ref (a 0)), (1, .int x1), (2, .int x2), (3, .int x3)]) hx hb dX6_fewest_92 hl (k := 0) rfl (by rfl) (by decide) rfl (fun ls hl => ?_)
              refine lv_goto (tgt := 44) hx hb dX6_fewest_95 (by decide) ?_
              exact ih_44 _ (hd_44 ▸ mu_up 32 (rn_ltu (u' := 31) (Int32.not_le.mp c_26) hz44_6 hq_25 (by decide)) (by decide)) K44 (z44_6 + 1) z44_5 z44_4 _ _ ls rfl (rg_w (rg_add (lo := 1) (hi := 32) (rn_ltu (u' := 31) (Int32.not_le.mp c_26) hz44_6 hq_25 (by decide)) (rg_c (v := 1) (lo := 1) (hi := 1) (by decide)) (by decide)) (by decide)) hT hF hLF_44 hP hD hS (lv_sub hl [0, 1, 2, 3, 4, 5, 6] rfl)
            · refine lv_aload_n hx hb dX6_fewest_66 rfl (lv_at hl 3 rfl) ?_
              refine va_get (D := D) (ci := 6) (v := .ref (a 3)) (C := RX6) (T := TX6) (N := 9) hx hb htg ig_6 hown hK hP 0 (oh_wg (by decide) (sX_0 hT)) rfl 3 (by decide) (htg _ q_261) (fun _ h9 => h9) rfl dX6_fewest_67 ?_
              refine lv_iload_n hx hb dX6_fewest_70 rfl (lv_at hl 4 rfl) ?_
              refine lv_iload hx hb dX6_fewest_71 (lv_at hl 0 rfl) ?_
              refine lv_iload_n hx hb dX6_fewest_73 rfl (lv_at hl 5 rfl) ?_
              refine lv_iload_n hx hb dX6_fewest_74 rfl (lv_at hl 6 rfl) ?_
              refine tm_V (As := [.int x1, .int z44_6, .int x2, .int x3]) (rest := []) ⟨hx, hb, hml, hown, htg⟩ (c_X5_hasWay l D E G _ a K44 hT x1 z44_6 x2 x3 (rg_w u_9 (by decide)) (rg_w u_18 (by decide)) (rg_w u_22 (by decide))) (cwV 4 htg (oh_gV q_881 q_882 q_883 q_68 q_884) rfl rfl rfl pdVX5_hasWay ⟨Nat.le_of_ble_eq_true rfl, Nat.le_of_ble_eq_true rfl⟩) hK hP hD hG hS hA (va_recv hK hP (ci := 5) (q0 := 3) rfl (oh_wg (by decide) (sX_3 hT))) rfl hl.1 rfl (Nat.le_of_ble_eq_true rfl) dX6_fewest_75 ⟨Nat.le_of_ble_eq_true rfl, Nat.le_of_ble_eq_true rfl⟩ (fun r_36 C_37 H locs hq_38 hP hD hS => ?_)
              obtain ⟨hT, f_39, hq_38⟩ := hq_38
              have hF := fr_tr hF f_39 (by decide) (by decide)
              refine W.widen (k := 0) (n := 0) (Nat.le_refl _) (Nat.le_refl _) ?_
              have t_40 := hT
              refine lv_if_eq (tgt := 92) hx hb dX6_fewest_78 (by decide) (fun (c_41 : r_36 = 0) => ?_) (fun (c_41 : ¬ (r_36 = 0)) => ?_)
              · refine lv_iinc (v := z44_6 + 1) (lv' := [(6, .int (z44_6 + 1)), (5, .int z44_5), (4, .int z44_4), (0, .ref (a 0)), (1, .int x1), (2, .int x2), (3, .int x3)]) hx hb dX6_fewest_92 hl (k := 0) rfl (by rfl) (by decide) rfl (fun ls hl => ?_)
                refine lv_goto (tgt := 44) hx hb dX6_fewest_95 (by decide) ?_
                exact ih_44 _ (hd_44 ▸ mu_up 32 (rn_ltu (u' := 31) (Int32.not_le.mp c_26) hz44_6 hq_25 (by decide)) (by decide)) C_37 (z44_6 + 1) z44_5 z44_4 _ _ ls rfl (rg_w (rg_add (lo := 1) (hi := 32) (rn_ltu (u' := 31) (Int32.not_le.mp c_26) hz44_6 hq_25 (by decide)) (rg_c (v := 1) (lo := 1) (hi := 1) (by decide)) (by decide)) (by decide)) hT hF (fr_tr hLF_44 f_39 (by decide) (by decide)) hP hD hS (lv_sub hl [0, 1, 2, 3, 4, 5, 6] rfl)
              · refine lv_iload hx hb dX6_fewest_81 (lv_at hl 0 rfl) ?_
                refine lv_istore (lv' := [(4, .int z44_6), (6, .int z44_6), (5, .int z44_5), (0, .ref (a 0)), (1, .int x1), (2, .int x2), (3, .int x3)]) hx hb dX6_fewest_83 hl (by decide) rfl (fun ls hl => ?_)
                refine lv_iload hx hb dX6_fewest_85 (lv_at hl 1 rfl) ?_
                refine tq_S (As := [.int z44_6]) (rest := []) (ws := []) ⟨hx, hb, hml, hown, htg⟩ (c_J6_bitCount_0f7a4 l D E G z44_6) (va_cwS 1 htg (oh_gS q_854 q_855 q_80 q_856) rfl rfl rfl pdJ6_bitCount_0f7a4 ⟨Nat.le_of_ble_eq_true rfl, Nat.le_of_ble_eq_true rfl⟩) hK va_nil hG hS rfl hl.1 rfl (Nat.le_of_ble_eq_true rfl) dX6_fewest_87 ⟨Nat.le_of_ble_eq_true rfl, Nat.le_of_ble_eq_true rfl⟩ (fun r_42 hq_43 => ?_)
                refine lv_istore (lv' := [(5, .int r_42), (4, .int z44_6), (6, .int z44_6), (0, .ref (a 0)), (1, .int x1), (2, .int x2), (3, .int x3)]) hx hb dX6_fewest_90 hl (by decide) rfl (fun ls hl => ?_)
                refine lv_iinc (v := z44_6 + 1) (lv' := [(6, .int (z44_6 + 1)), (5, .int r_42), (4, .int z44_6), (0, .ref (a 0)), (1, .int x1), (2, .int x2), (3, .int x3)]) hx hb dX6_fewest_92 hl (k := 2) rfl (by rfl) (by decide) rfl (fun ls hl => ?_)
                refine lv_goto (tgt := 44) hx hb dX6_fewest_95 (by decide) ?_
                exact ih_44 _ (hd_44 ▸ mu_up 32 (rn_ltu (u' := 31) (Int32.not_le.mp c_26) hz44_6 hq_25 (by decide)) (by decide)) C_37 (z44_6 + 1) r_42 z44_6 _ _ ls rfl (rg_w (rg_add (lo := 1) (hi := 32) (rn_ltu (u' := 31) (Int32.not_le.mp c_26) hz44_6 hq_25 (by decide)) (rg_c (v := 1) (lo := 1) (hi := 1) (by decide)) (by decide)) (by decide)) hT hF (fr_tr hLF_44 f_39 (by decide) (by decide)) hP hD hS (lv_sub hl [0, 1, 2, 3, 4, 5, 6] rfl)
        exact L_44 _ C 0 6 (-1) _ _ ls rfl (rg_w (rg_c (v := 0) (lo := 0) (hi := 0) (by decide)) (by decide)) hT hF fr_rf hP hD hS (lv_sub hl [0, 1, 2, 3, 4, 5, 6] rfl)
      · refine lv_aload_n hx hb dX6_fewest_22 rfl (lv_at hl 0 rfl) ?_
        refine lv_bipush (v := (-2)) hx hb dX6_fewest_23 (by decide) ?_
        refine tm_V (As := [.int (-2)]) (rest := []) ⟨hx, hb, hml, hown, htg⟩ (c_X6_refuse l D E G _ a C hT ((-2) : Int32)) (cwV 1 htg (oh_gV q_296 q_298 q_0 q_66 q_299) rfl rfl rfl pdVX6_refuse ⟨Nat.le_of_ble_eq_true rfl, Nat.le_of_ble_eq_true rfl⟩) hK hP hD hG hS hA (va_recv hK hP (ci := 6) (q0 := 0) rfl (oh_wg (by decide) (sX_0 hT))) rfl hl.1 rfl (Nat.le_of_ble_eq_true rfl) dX6_fewest_25 ⟨Nat.le_of_ble_eq_true rfl, Nat.le_of_ble_eq_true rfl⟩ (fun r_44 C_45 H locs hq_46 hP hD hS => ?_)
        obtain ⟨hT, f_47, hq_46⟩ := hq_46
        have hF := fr_tr hF f_47 (by decide) (by decide)
        refine W.widen (k := 0) (n := 0) (Nat.le_refl _) (Nat.le_refl _) ?_
        have t_48 := hT
        rw [hQ]
        exact W.iret (v := r_44) hx hb hr (fun t ht hW => ⟨⟨r_44, C_45, rfl, ⟨hT, hF, trivial⟩, ⟨by rw [ht]; exact hP, hD⟩⟩, hS.F ht⟩) hS.2.2 dX6_fewest_28

theorem mu_half {x : Int32} {l u : Int} (h : rg x l u) (hd : decide (1 ≤ l ∧ u ≤ 512) = true) : ((x / 2).toInt).toNat < x.toInt.toNat := by
  have h2 := of_decide_eq_true hd
  obtain ⟨a1, a2⟩ := h
  have e : (x / 2).toInt = x.toInt.tdiv 2 := by
    rw [Int32.toInt_div]
    exact oh_bmod (by show _ ≤ x.toInt.tdiv 2; rw [Int.tdiv_eq_ediv_of_nonneg (by omega)]; omega) (by show x.toInt.tdiv 2 ≤ _; rw [Int.tdiv_eq_ediv_of_nonneg (by omega)]; omega)
  rw [e, Int.tdiv_eq_ediv_of_nonneg (by omega)]
  omega
theorem rg_half {x : Int32} {l u : Int} (h : rg x l u) (hd : decide (0 ≤ l ∧ u ≤ 512) = true) : rg (x / 2) 0 512 := by
  have h2 := of_decide_eq_true hd
  obtain ⟨a1, a2⟩ := h
  have e : (x / 2).toInt = x.toInt.tdiv 2 := by
    rw [Int32.toInt_div]
    exact oh_bmod (by show _ ≤ x.toInt.tdiv 2; rw [Int.tdiv_eq_ediv_of_nonneg (by omega)]; omega) (by show x.toInt.tdiv 2 ≤ _; rw [Int.tdiv_eq_ediv_of_nonneg (by omega)]; omega)
  unfold rg
  rw [e, Int.tdiv_eq_ediv_of_nonneg (by omega)]
  omega

set_option maxHeartbeats 4000000 in
set_option maxRecDepth 100000 in
theorem c_X6_valueOfWaiting (l : Launch) (D : va_G) (E : Nat → ClassId) (G : Nat → Nat) (x1 : Int64) (x2 : Int64) (x3 : Int32) (x4 : Int32) (x5 : Int32) (hx3 : rg x3 0 6) : Met l yX6_valueOfWaiting (oh_w yX6_valueOfWaiting cX6_valueOfWaiting 14 (some .long)) ({ frames := 1, cells := 0, slots := 0, locals := 15 }) (oh_Pp D E G [.long x1, .long x2, .int x3, .int x4, .int x5] []) (vp_Sl (fun r => True)) 0 0 (fun _ => False) := by
  refine Met.ofW (cc := cX6_valueOfWaiting) (maxL := 14) (ret := (some .long)) (by decide) rfl ?_
  intro p e s m args below meth c s₁ B hml hv
  obtain ⟨rfl, hP, hK, hG⟩ := hv
  have hx := B.exec
  have hb := B.bytes
  have hr := B.returns
  have hts := atoms_spec (ws := (oh_w yX6_valueOfWaiting cX6_valueOfWaiting 14 (some .long))) B.pre
  have htg : ∀ w ∈ oh_t, w.before _ s = true := fun w h => hts w (List.mem_cons_of_mem _ h)
  have hown : s.vm.findClass RX6 = some m.cls := findClass_of_methodNamed B.named
  have hlocks := B.notSynchronized
  have hS : va_S (fun _ => False) s.heap s.heap [] := va_S.rf
  have hl := lv_entry ([.long x1, .long x2, .int x3, .int x4, .int x5]) (n := 14) (Nat.le_of_ble_eq_true rfl)
  rw [lg_entry_eq]
  generalize (lg_sl ([.long x1, .long x2, .int x3, .int x4, .int x5]) ++ List.replicate (14 - (lg_sl ([.long x1, .long x2, .int x3, .int x4, .int x5])).length) Slot.unset).toArray = ls at hl ⊢
  have hl : lv_has ls 14 [(0, .long x1), (2, .long x2), (4, .int x3), (5, .int x4), (6, .int x5)] := hl
  refine oh_genQ (fun Q hQ => ?_)
  refine lv_lload_n hx hb dX6_valueOfWaiting_0 rfl (lv_at hl 0 rfl) ?_
  refine lv_lstore (lv' := [(7, .long x1), (0, .long x1), (2, .long x2), (4, .int x3), (5, .int x4), (6, .int x5)]) hx hb dX6_valueOfWaiting_1 hl (by decide) rfl (fun ls hl => ?_)
  refine lv_lconst (v := 1) hx hb dX6_valueOfWaiting_3 (by decide) ?_
  refine lv_lstore (lv' := [(9, .long 1), (7, .long x1), (0, .long x1), (2, .long x2), (4, .int x3), (5, .int x4), (6, .int x5)]) hx hb dX6_valueOfWaiting_4 hl (by decide) rfl (fun ls hl => ?_)
  refine lv_iconst (v := 0) hx hb dX6_valueOfWaiting_6 (by decide) ?_
  refine lv_istore (lv' := [(11, .int 0), (9, .long 1), (7, .long x1), (0, .long x1), (2, .long x2), (4, .int x3), (5, .int x4), (6, .int x5)]) hx hb dX6_valueOfWaiting_7 hl (by decide) rfl (fun ls hl => ?_)
  have L_9 : ∀ (d : Nat) (z9_11 : Int32) (z9_9 : Int64) (z9_7 : Int64) (ls : Array Slot), (6 - z9_11.toInt).toNat = d → rg z9_11 0 6 → lv_has ls 14 [(11, .int z9_11), (9, .long z9_9), (7, .long z9_7), (0, .long x1), (2, .long x2), (4, .int x3), (5, .int x4), (6, .int x5)] → W p l e ({ frames := 1, cells := 0, slots := 0, locals := 15 }) s m (([.long x1, .long x2, .int x3, .int x4, .int x5] : List Value).toArray) below meth c s.heap [] 0 0 Q (F0 m 9 ls []) := by
    intro d
    induction d using Nat.strongRecOn with
    | ind d ih_9 =>
    intro z9_11 z9_9 z9_7 ls hd_9 hz9_11 hl
    refine lv_iload hx hb dX6_valueOfWaiting_9 (lv_at hl 0 rfl) ?_
    refine lv_iload hx hb dX6_valueOfWaiting_11 (lv_at hl 5 rfl) ?_
    refine lv_icmp_ge (tgt := 68) hx hb dX6_valueOfWaiting_13 (by decide) (fun (c_1 : x3 ≤ z9_11) => ?_) (fun (c_1 : ¬ (x3 ≤ z9_11)) => ?_)
    · refine lv_lload hx hb dX6_valueOfWaiting_68 (lv_at hl 2 rfl) ?_
      rw [hQ]
      exact W.lret (v := z9_7) hx hb hr (fun t ht hW => ⟨z9_7, rfl, trivial, ht⟩) (fun q h => by cases h) dX6_valueOfWaiting_70
    · refine lv_iload hx hb dX6_valueOfWaiting_16 (lv_at hl 6 rfl) ?_
      refine lv_i2l (v := Int32.toInt64 x4) hx hb dX6_valueOfWaiting_18 (by rfl) ?_
      refine lv_lload_n hx hb dX6_valueOfWaiting_19 rfl (lv_at hl 4 rfl) ?_
      refine lv_lmul hx hb dX6_valueOfWaiting_20 ?_
      refine lv_lload hx hb dX6_valueOfWaiting_21 (lv_at hl 1 rfl) ?_
      refine lv_lmul hx hb dX6_valueOfWaiting_23 ?_
      refine lv_bipush (v := 10) hx hb dX6_valueOfWaiting_24 (by decide) ?_
      refine lv_iload hx hb dX6_valueOfWaiting_26 (lv_at hl 6 rfl) ?_
      refine lv_isub hx hb dX6_valueOfWaiting_28 ?_
      refine lv_i2l (v := Int32.toInt64 (10 - x4)) hx hb dX6_valueOfWaiting_29 (by rfl) ?_
      refine lv_lload hx hb dX6_valueOfWaiting_30 (lv_at hl 2 rfl) ?_
      refine lv_lmul hx hb dX6_valueOfWaiting_32 ?_
      refine lv_ladd hx hb dX6_valueOfWaiting_33 ?_
      refine lv_lstore (lv' := [(12, .long ((((Int32.toInt64 x4) * x2) * z9_9) + ((Int32.toInt64 (10 - x4)) * z9_7))), (11, .int z9_11), (9, .long z9_9), (7, .long z9_7), (0, .long x1), (2, .long x2), (4, .int x3), (5, .int x4), (6, .int x5)]) hx hb dX6_valueOfWaiting_34 hl (by decide) rfl (fun ls hl => ?_)
      refine lv_lload hx hb dX6_valueOfWaiting_36 (lv_at hl 2 rfl) ?_
      refine lv_ldc2 (v := 10) hx hb hown (htg _ q_900) dX6_valueOfWaiting_38 ?_
      refine lv_lmul hx hb dX6_valueOfWaiting_41 ?_
      refine lv_lstore (lv' := [(9, .long (z9_9 * 10)), (12, .long ((((Int32.toInt64 x4) * x2) * z9_9) + ((Int32.toInt64 (10 - x4)) * z9_7))), (11, .int z9_11), (7, .long z9_7), (0, .long x1), (2, .long x2), (4, .int x3), (5, .int x4), (6, .int x5)]) hx hb dX6_valueOfWaiting_42 hl (by decide) rfl (fun ls hl => ?_)
      refine lv_lload_n hx hb dX6_valueOfWaiting_44 rfl (lv_at hl 4 rfl) ?_
      refine lv_lload hx hb dX6_valueOfWaiting_45 (lv_at hl 0 rfl) ?_
      refine lv_lmul hx hb dX6_valueOfWaiting_47 ?_
      refine lv_iload hx hb dX6_valueOfWaiting_48 (lv_at hl 8 rfl) ?_
      refine lv_i2l (v := Int32.toInt64 x5) hx hb dX6_valueOfWaiting_50 (by rfl) ?_
      refine lv_lload hx hb dX6_valueOfWaiting_51 (lv_at hl 0 rfl) ?_
      refine lv_lmul hx hb dX6_valueOfWaiting_53 ?_
      refine lv_lload hx hb dX6_valueOfWaiting_54 (lv_at hl 1 rfl) ?_
      refine lv_ladd hx hb dX6_valueOfWaiting_56 ?_
      refine va_mmin_long hx hb (by rw [hml]; exact hl.1.symm) hown (htg _ q_901) (htg _ q_902) (htg _ q_79) (htg _ q_903) (Nat.le_of_ble_eq_true rfl) (Nat.le_of_ble_eq_true rfl) (Nat.le_of_ble_eq_true rfl) (Nat.le_of_ble_eq_true rfl) dX6_valueOfWaiting_57 ?_
      refine lv_lstore (lv' := [(7, .long (if ((Int32.toInt64 x5) * (z9_9 * 10)) + ((((Int32.toInt64 x4) * x2) * z9_9) + ((Int32.toInt64 (10 - x4)) * z9_7)) < x1 * (z9_9 * 10) then ((Int32.toInt64 x5) * (z9_9 * 10)) + ((((Int32.toInt64 x4) * x2) * z9_9) + ((Int32.toInt64 (10 - x4)) * z9_7)) else x1 * (z9_9 * 10))), (9, .long (z9_9 * 10)), (12, .long ((((Int32.toInt64 x4) * x2) * z9_9) + ((Int32.toInt64 (10 - x4)) * z9_7))), (11, .int z9_11), (0, .long x1), (2, .long x2), (4, .int x3), (5, .int x4), (6, .int x5)]) hx hb dX6_valueOfWaiting_60 hl (by decide) rfl (fun ls hl => ?_)
      refine lv_iinc (v := z9_11 + 1) (lv' := [(11, .int (z9_11 + 1)), (7, .long (if ((Int32.toInt64 x5) * (z9_9 * 10)) + ((((Int32.toInt64 x4) * x2) * z9_9) + ((Int32.toInt64 (10 - x4)) * z9_7)) < x1 * (z9_9 * 10) then ((Int32.toInt64 x5) * (z9_9 * 10)) + ((((Int32.toInt64 x4) * x2) * z9_9) + ((Int32.toInt64 (10 - x4)) * z9_7)) else x1 * (z9_9 * 10))), (9, .long (z9_9 * 10)), (12, .long ((((Int32.toInt64 x4) * x2) * z9_9) + ((Int32.toInt64 (10 - x4)) * z9_7))), (0, .long x1), (2, .long x2), (4, .int x3), (5, .int x4), (6, .int x5)]) hx hb dX6_valueOfWaiting_62 hl (k := 3) rfl (by rfl) (by decide) rfl (fun ls hl => ?_)
      refine lv_goto (tgt := 9) hx hb dX6_valueOfWaiting_65 (by decide) ?_
      exact ih_9 _ (hd_9 ▸ mu_up 6 (rn_ltu (u' := 5) (Int32.not_le.mp c_1) hz9_11 hx3 (by decide)) (by decide)) (z9_11 + 1) (z9_9 * 10) (if ((Int32.toInt64 x5) * (z9_9 * 10)) + ((((Int32.toInt64 x4) * x2) * z9_9) + ((Int32.toInt64 (10 - x4)) * z9_7)) < x1 * (z9_9 * 10) then ((Int32.toInt64 x5) * (z9_9 * 10)) + ((((Int32.toInt64 x4) * x2) * z9_9) + ((Int32.toInt64 (10 - x4)) * z9_7)) else x1 * (z9_9 * 10)) ls rfl (rg_w (rg_add (lo := 1) (hi := 6) (rn_ltu (u' := 5) (Int32.not_le.mp c_1) hz9_11 hx3 (by decide)) (rg_c (v := 1) (lo := 1) (hi := 1) (by decide)) (by decide)) (by decide)) (lv_sub hl [0, 2, 1, 4, 5, 6, 7, 8] rfl)
  exact L_9 _ 0 1 x1 ls rfl (rg_w (rg_c (v := 0) (lo := 0) (hi := 0) (by decide)) (by decide)) (lv_sub hl [0, 1, 2, 3, 4, 5, 6, 7] rfl)

set_option maxHeartbeats 4000000 in
set_option maxRecDepth 100000 in
theorem c_X6_under (l : Launch) (D : va_G) (E : Nat → ClassId) (G : Nat → Nat) (sz : Nat) (a : Nat → Nat) (C : Nat → va_E) (hT : TyX a E C) (x1 : Int32) : Met l yX6_under (oh_w yX6_under cX6_under 2 (some .int)) ({ frames := 2, cells := 0, slots := 0, locals := 44 }) (oh_Pm D E G [.ref (a 0), .int x1] (oh_W 35 a C) sz) (va_Qi (fun r (u : Nat → va_E) => TyX a E u ∧ fr [(7, 8)] [] C u ∧ True) (oh_B D (va_A (oh_W 35 a C) sz) (fun u => oh_W 35 a u)) (va_A (oh_W 35 a C) sz)) 0 0 (va_A (oh_W 35 a C) sz) := by
  refine Met.ofW (cc := cX6_under) (maxL := 2) (ret := (some .int)) (by decide) rfl ?_
  intro p e s m args below meth c s₁ B hml hv
  obtain ⟨rfl, hsz, hP, hK, hD0, hG⟩ := hv
  have hx := B.exec
  have hb := B.bytes
  have hr := B.returns
  have hts := atoms_spec (ws := (oh_w yX6_under cX6_under 2 (some .int))) B.pre
  have htg : ∀ w ∈ oh_t, w.before _ s = true := fun w h => hts w (List.mem_cons_of_mem _ h)
  have hown : s.vm.findClass RX6 = some m.cls := findClass_of_methodNamed B.named
  have hlocks := B.notSynchronized
  have hT0 := hT
  subst hsz
  have hD := hD0.self (sz := s.heap.size)
  generalize hAe : va_A (oh_W 35 a C) s.heap.size = A at hD hG ⊢
  have hA : ∀ q : Nat, s.heap.size ≤ q → A q := fun q h => by rw [← hAe]; exact Or.inr h
  have hS : va_S A s.heap s.heap [] := va_S.rf
  have hF : fr [(7, 8)] [] C C := fr_rf
  have hl := lv_entry ([.ref (a 0), .int x1]) (n := 2) (Nat.le_of_ble_eq_true rfl)
  rw [lg_entry_eq]
  generalize (lg_sl ([.ref (a 0), .int x1]) ++ List.replicate (2 - (lg_sl ([.ref (a 0), .int x1])).length) Slot.unset).toArray = ls at hl ⊢
  have hl : lv_has ls 2 [(0, .ref (a 0)), (1, .int x1)] := hl
  refine oh_genQ (fun Q hQ => ?_)
  refine lv_iload_n hx hb dX6_under_0 rfl (lv_at hl 1 rfl) ?_
  refine lv_iconst (v := 0) hx hb dX6_under_1 (by decide) ?_
  refine lv_iconst (v := 4) hx hb dX6_under_2 (by decide) ?_
  refine tq_S (As := [.int x1, .int 0, .int 4]) (rest := []) (ws := []) ⟨hx, hb, hml, hown, htg⟩ (c_X6_within l D E G x1 (0 : Int32) (4 : Int32)) (va_cwS 3 htg (oh_gS q_293 q_294 q_66 q_295) rfl rfl rfl pdX6_within ⟨Nat.le_of_ble_eq_true rfl, Nat.le_of_ble_eq_true rfl⟩) hK va_nil hG hS rfl hl.1 rfl (Nat.le_of_ble_eq_true rfl) dX6_under_3 ⟨Nat.le_of_ble_eq_true rfl, Nat.le_of_ble_eq_true rfl⟩ (fun r_1 hq_2 => ?_)
  refine lv_if_ne (tgt := 16) hx hb dX6_under_6 (by decide) (fun (c_3 : ¬ (r_1 = 0)) => ?_) (fun (c_3 : r_1 = 0) => ?_)
  · have u_4 := hq_2.2.1 c_3
    refine lv_aload_n hx hb dX6_under_16 rfl (lv_at hl 0 rfl) ?_
    refine va_get (D := D) (ci := 6) (v := .ref (a 1)) (C := RX6) (T := TX6) (N := 9) hx hb htg ig_6 hown hK hP 0 (oh_wg (by decide) (sX_0 hT)) rfl 0 (by decide) (htg _ q_258) (fun _ h9 => h9) rfl dX6_under_17 ?_
    refine va_get (D := D) (ci := 0) (v := .int (gi (C 1) 7)) (C := RX0) (T := TX0) (N := 8) hx hb htg ig_0 hown hK hP 1 (oh_wg (by decide) (sX_1 hT)) rfl 7 (by decide) (htg _ q_114) (fun _ h9 => h9) rfl dX6_under_20 ?_
    refine lv_if_eq (tgt := 38) hx hb dX6_under_23 (by decide) (fun (c_5 : (gi (C 1) 7) = 0) => ?_) (fun (c_5 : ¬ ((gi (C 1) 7) = 0)) => ?_)
    · refine lv_aload_n hx hb dX6_under_38 rfl (lv_at hl 0 rfl) ?_
      refine lv_bipush (v := (-5)) hx hb dX6_under_39 (by decide) ?_
      refine tm_V (As := [.int (-5)]) (rest := []) ⟨hx, hb, hml, hown, htg⟩ (c_X6_refuse l D E G _ a C hT ((-5) : Int32)) (cwV 1 htg (oh_gV q_296 q_298 q_0 q_66 q_299) rfl rfl rfl pdVX6_refuse ⟨Nat.le_of_ble_eq_true rfl, Nat.le_of_ble_eq_true rfl⟩) hK hP hD hG hS hA (va_recv hK hP (ci := 6) (q0 := 0) rfl (oh_wg (by decide) (sX_0 hT))) rfl hl.1 rfl (Nat.le_of_ble_eq_true rfl) dX6_under_41 ⟨Nat.le_of_ble_eq_true rfl, Nat.le_of_ble_eq_true rfl⟩ (fun r_6 C_7 H locs hq_8 hP hD hS => ?_)
      obtain ⟨hT, f_9, hq_8⟩ := hq_8
      have hF := fr_tr hF f_9 (by decide) (by decide)
      refine W.widen (k := 0) (n := 0) (Nat.le_refl _) (Nat.le_refl _) ?_
      have t_10 := hT
      rw [hQ]
      exact W.iret (v := r_6) hx hb hr (fun t ht hW => ⟨⟨r_6, C_7, rfl, ⟨hT, hF, trivial⟩, ⟨by rw [ht]; exact hP, hD⟩⟩, hS.F ht⟩) hS.2.2 dX6_under_44
    · refine lv_aload_n hx hb dX6_under_26 rfl (lv_at hl 0 rfl) ?_
      refine va_get (D := D) (ci := 6) (v := .ref (a 1)) (C := RX6) (T := TX6) (N := 9) hx hb htg ig_6 hown hK hP 0 (oh_wg (by decide) (sX_0 hT)) rfl 0 (by decide) (htg _ q_258) (fun _ h9 => h9) rfl dX6_under_27 ?_
      refine va_get (D := D) (ci := 0) (v := .ref (a 16)) (C := RX0) (T := TX0) (N := 8) hx hb htg ig_0 hown hK hP 1 (oh_wg (by decide) (sX_1 hT)) rfl 6 (by decide) (htg _ q_112) (fun _ h9 => h9) rfl dX6_under_30 ?_
      refine lv_iload_n hx hb dX6_under_33 rfl (lv_at hl 1 rfl) ?_
      have n_11 : vp_in x1 7 := (rg_in (rn_leu u_4.2 (rn_lel u_4.1 (rg_c (v := 0) (lo := 0) (hi := 0) (by decide)) (rg_any _)) (rg_c (v := 4) (lo := 4) (hi := 4) (by decide))) (by decide))
      refine th_iald hx hb hK hP 16 (by decide) (sX_16 hT) n_11 dX6_under_34 ?_
      refine lv_goto (tgt := 44) hx hb dX6_under_35 (by decide) ?_
      rw [hQ]
      exact W.iret (v := ga (C 16) (x1).toNatClampNeg) hx hb hr (fun t ht hW => ⟨⟨ga (C 16) (x1).toNatClampNeg, C, rfl, ⟨hT, hF, trivial⟩, ⟨by rw [ht]; exact hP, hD⟩⟩, hS.F ht⟩) hS.2.2 dX6_under_44
  · have u_12 := hq_2.2.2 c_3
    refine lv_aload_n hx hb dX6_under_9 rfl (lv_at hl 0 rfl) ?_
    refine lv_bipush (v := (-2)) hx hb dX6_under_10 (by decide) ?_
    refine tm_V (As := [.int (-2)]) (rest := []) ⟨hx, hb, hml, hown, htg⟩ (c_X6_refuse l D E G _ a C hT ((-2) : Int32)) (cwV 1 htg (oh_gV q_296 q_298 q_0 q_66 q_299) rfl rfl rfl pdVX6_refuse ⟨Nat.le_of_ble_eq_true rfl, Nat.le_of_ble_eq_true rfl⟩) hK hP hD hG hS hA (va_recv hK hP (ci := 6) (q0 := 0) rfl (oh_wg (by decide) (sX_0 hT))) rfl hl.1 rfl (Nat.le_of_ble_eq_true rfl) dX6_under_12 ⟨Nat.le_of_ble_eq_true rfl, Nat.le_of_ble_eq_true rfl⟩ (fun r_13 C_14 H locs hq_15 hP hD hS => ?_)
    obtain ⟨hT, f_16, hq_15⟩ := hq_15
    have hF := fr_tr hF f_16 (by decide) (by decide)
    refine W.widen (k := 0) (n := 0) (Nat.le_refl _) (Nat.le_refl _) ?_
    have t_17 := hT
    rw [hQ]
    exact W.iret (v := r_13) hx hb hr (fun t ht hW => ⟨⟨r_13, C_14, rfl, ⟨hT, hF, trivial⟩, ⟨by rw [ht]; exact hP, hD⟩⟩, hS.F ht⟩) hS.2.2 dX6_under_15

set_option maxHeartbeats 4000000 in
set_option maxRecDepth 100000 in
theorem c_X6_status (l : Launch) (D : va_G) (E : Nat → ClassId) (G : Nat → Nat) (a : Nat → Nat) (C : Nat → va_E) (hT : TyX a E C) (x1 : Int32) : Met l yX6_status (oh_w yX6_status cX6_status 2 (some .int)) ({ frames := 2, cells := 0, slots := 0, locals := 45 }) (oh_Pp D E G [.ref (a 0), .int x1] (oh_W 35 a C)) (vp_Si (fun r => True)) 0 0 (fun _ => False) := by
  refine Met.ofW (cc := cX6_status) (maxL := 2) (ret := (some .int)) (by decide) rfl ?_
  intro p e s m args below meth c s₁ B hml hv
  obtain ⟨rfl, hP, hK, hG⟩ := hv
  have hx := B.exec
  have hb := B.bytes
  have hr := B.returns
  have hts := atoms_spec (ws := (oh_w yX6_status cX6_status 2 (some .int))) B.pre
  have htg : ∀ w ∈ oh_t, w.before _ s = true := fun w h => hts w (List.mem_cons_of_mem _ h)
  have hown : s.vm.findClass RX6 = some m.cls := findClass_of_methodNamed B.named
  have hlocks := B.notSynchronized
  have hT0 := hT
  have hS : va_S (fun _ => False) s.heap s.heap [] := va_S.rf
  have hl := lv_entry ([.ref (a 0), .int x1]) (n := 2) (Nat.le_of_ble_eq_true rfl)
  rw [lg_entry_eq]
  generalize (lg_sl ([.ref (a 0), .int x1]) ++ List.replicate (2 - (lg_sl ([.ref (a 0), .int x1])).length) Slot.unset).toArray = ls at hl ⊢
  have hl : lv_has ls 2 [(0, .ref (a 0)), (1, .int x1)] := hl
  refine oh_genQ (fun Q hQ => ?_)
  refine lv_iload_n hx hb dX6_status_0 rfl (lv_at hl 1 rfl) ?_
  refine lv_iconst (v := 0) hx hb dX6_status_1 (by decide) ?_
  refine lv_iconst (v := 3) hx hb dX6_status_2 (by decide) ?_
  refine tq_S (As := [.int x1, .int 0, .int 3]) (rest := []) (ws := []) ⟨hx, hb, hml, hown, htg⟩ (c_X6_within l D E G x1 (0 : Int32) (3 : Int32)) (va_cwS 3 htg (oh_gS q_293 q_294 q_66 q_295) rfl rfl rfl pdX6_within ⟨Nat.le_of_ble_eq_true rfl, Nat.le_of_ble_eq_true rfl⟩) hK va_nil hG hS rfl hl.1 rfl (Nat.le_of_ble_eq_true rfl) dX6_status_3 ⟨Nat.le_of_ble_eq_true rfl, Nat.le_of_ble_eq_true rfl⟩ (fun r_1 hq_2 => ?_)
  refine lv_if_eq (tgt := 19) hx hb dX6_status_6 (by decide) (fun (c_3 : r_1 = 0) => ?_) (fun (c_3 : ¬ (r_1 = 0)) => ?_)
  · have u_4 := hq_2.2.2 c_3
    refine lv_iload_n hx hb dX6_status_19 rfl (lv_at hl 1 rfl) ?_
    refine lv_bipush (v := 12) hx hb dX6_status_20 (by decide) ?_
    refine lv_bipush (v := 16) hx hb dX6_status_22 (by decide) ?_
    refine tq_S (As := [.int x1, .int 12, .int 16]) (rest := []) (ws := []) ⟨hx, hb, hml, hown, htg⟩ (c_X6_within l D E G x1 (12 : Int32) (16 : Int32)) (va_cwS 3 htg (oh_gS q_293 q_294 q_66 q_295) rfl rfl rfl pdX6_within ⟨Nat.le_of_ble_eq_true rfl, Nat.le_of_ble_eq_true rfl⟩) hK va_nil hG hS rfl hl.1 rfl (Nat.le_of_ble_eq_true rfl) dX6_status_24 ⟨Nat.le_of_ble_eq_true rfl, Nat.le_of_ble_eq_true rfl⟩ (fun r_5 hq_6 => ?_)
    refine lv_if_eq (tgt := 40) hx hb dX6_status_27 (by decide) (fun (c_7 : r_5 = 0) => ?_) (fun (c_7 : ¬ (r_5 = 0)) => ?_)
    · have u_8 := hq_6.2.2 c_7
      refine lv_iload_n hx hb dX6_status_40 rfl (lv_at hl 1 rfl) ?_
      by_cases c_9 : x1 = 4
      · refine lv_tableIn (off := 31) (tgt := 72) hx hb dX6_status_41 (by rw [c_9]; decide) (by rw [c_9]; decide) (by rw [c_9]; decide) (by decide) ?_
        refine lv_aload_n hx hb dX6_status_72 rfl (lv_at hl 0 rfl) ?_
        refine va_get (D := D) (ci := 6) (v := .ref (a 5)) (C := RX6) (T := TX6) (N := 9) hx hb htg ig_6 hown hK hP 0 (oh_wg (by decide) (sX_0 hT)) rfl 5 (by decide) (htg _ q_263) (fun _ h9 => h9) rfl dX6_status_73 ?_
        refine va_get (D := D) (ci := 4) (v := .int (gi (C 5) 1)) (C := RX4) (T := TX4) (N := 6) hx hb htg ig_4 hown hK hP 5 (oh_wg (by decide) (sX_5 hT)) rfl 1 (by decide) (htg _ q_219) (fun _ h9 => h9) rfl dX6_status_76 ?_
        rw [hQ]
        exact W.iret (v := gi (C 5) 1) hx hb hr (fun t ht hW => ⟨gi (C 5) 1, rfl, trivial, ht⟩) (fun q h => by cases h) dX6_status_79
      · by_cases c_10 : x1 = 5
        · refine lv_tableIn (off := 39) (tgt := 80) hx hb dX6_status_41 (by rw [c_10]; decide) (by rw [c_10]; decide) (by rw [c_10]; decide) (by decide) ?_
          refine lv_aload_n hx hb dX6_status_80 rfl (lv_at hl 0 rfl) ?_
          refine va_get (D := D) (ci := 6) (v := .ref (a 4)) (C := RX6) (T := TX6) (N := 9) hx hb htg ig_6 hown hK hP 0 (oh_wg (by decide) (sX_0 hT)) rfl 4 (by decide) (htg _ q_262) (fun _ h9 => h9) rfl dX6_status_81 ?_
          refine tq_V (As := []) (rest := []) (ws := (oh_W 35 a C)) ⟨hx, hb, hml, hown, htg⟩ (c_X3_countHeld l D E G a C hT) (cwV 0 htg (oh_gV q_955 q_956 q_957 q_70 q_958) rfl rfl rfl pdVX3_countHeld ⟨Nat.le_of_ble_eq_true rfl, Nat.le_of_ble_eq_true rfl⟩) hK hP hG hS (va_recv hK hP (ci := 3) (q0 := 4) rfl (oh_wg (by decide) (sX_4 hT))) rfl hl.1 rfl (Nat.le_of_ble_eq_true rfl) dX6_status_84 ⟨Nat.le_of_ble_eq_true rfl, Nat.le_of_ble_eq_true rfl⟩ (fun r_11 hq_12 => ?_)
          rw [hQ]
          exact W.iret (v := r_11) hx hb hr (fun t ht hW => ⟨r_11, rfl, trivial, ht⟩) (fun q h => by cases h) dX6_status_87
        · by_cases c_13 : x1 = 6
          · refine lv_tableIn (off := 47) (tgt := 88) hx hb dX6_status_41 (by rw [c_13]; decide) (by rw [c_13]; decide) (by rw [c_13]; decide) (by decide) ?_
            refine lv_aload_n hx hb dX6_status_88 rfl (lv_at hl 0 rfl) ?_
            refine va_get (D := D) (ci := 6) (v := .ref (a 1)) (C := RX6) (T := TX6) (N := 9) hx hb htg ig_6 hown hK hP 0 (oh_wg (by decide) (sX_0 hT)) rfl 0 (by decide) (htg _ q_258) (fun _ h9 => h9) rfl dX6_status_89 ?_
            refine lv_bipush (v := 7) hx hb dX6_status_92 (by decide) ?_
            refine tq_V (As := [.int 7]) (rest := []) (ws := (oh_W 35 a C)) ⟨hx, hb, hml, hown, htg⟩ (c_X0_countBridges l D E G a C hT (7 : Int32) (rg_w (rg_c (v := 7) (lo := 7) (hi := 7) (by decide)) (by decide))) (cwV 1 htg (oh_gV q_959 q_960 q_961 q_67 q_962) rfl rfl rfl pdVX0_countBridges ⟨Nat.le_of_ble_eq_true rfl, Nat.le_of_ble_eq_true rfl⟩) hK hP hG hS (va_recv hK hP (ci := 0) (q0 := 1) rfl (oh_wg (by decide) (sX_1 hT))) rfl hl.1 rfl (Nat.le_of_ble_eq_true rfl) dX6_status_94 ⟨Nat.le_of_ble_eq_true rfl, Nat.le_of_ble_eq_true rfl⟩ (fun r_14 hq_15 => ?_)
            rw [hQ]
            exact W.iret (v := r_14) hx hb hr (fun t ht hW => ⟨r_14, rfl, trivial, ht⟩) (fun q h => by cases h) dX6_status_97
          · by_cases c_16 : x1 = 7
            · refine lv_tableIn (off := 57) (tgt := 98) hx hb dX6_status_41 (by rw [c_16]; decide) (by rw [c_16]; decide) (by rw [c_16]; decide) (by decide) ?_
              refine lv_aload_n hx hb dX6_status_98 rfl (lv_at hl 0 rfl) ?_
              refine va_get (D := D) (ci := 6) (v := .ref (a 1)) (C := RX6) (T := TX6) (N := 9) hx hb htg ig_6 hown hK hP 0 (oh_wg (by decide) (sX_0 hT)) rfl 0 (by decide) (htg _ q_258) (fun _ h9 => h9) rfl dX6_status_99 ?_
              refine lv_bipush (v := 8) hx hb dX6_status_102 (by decide) ?_
              refine tq_V (As := [.int 8]) (rest := []) (ws := (oh_W 35 a C)) ⟨hx, hb, hml, hown, htg⟩ (c_X0_countBridges l D E G a C hT (8 : Int32) (rg_w (rg_c (v := 8) (lo := 8) (hi := 8) (by decide)) (by decide))) (cwV 1 htg (oh_gV q_959 q_960 q_961 q_67 q_962) rfl rfl rfl pdVX0_countBridges ⟨Nat.le_of_ble_eq_true rfl, Nat.le_of_ble_eq_true rfl⟩) hK hP hG hS (va_recv hK hP (ci := 0) (q0 := 1) rfl (oh_wg (by decide) (sX_1 hT))) rfl hl.1 rfl (Nat.le_of_ble_eq_true rfl) dX6_status_104 ⟨Nat.le_of_ble_eq_true rfl, Nat.le_of_ble_eq_true rfl⟩ (fun r_17 hq_18 => ?_)
              rw [hQ]
              exact W.iret (v := r_17) hx hb hr (fun t ht hW => ⟨r_17, rfl, trivial, ht⟩) (fun q h => by cases h) dX6_status_107
            · refine lv_tableOut (tgt := 108) hx hb dX6_status_41 (by have h9 := And.intro (oh_ne c_9 (k := 4) (by decide)) (And.intro (oh_ne c_10 (k := 5) (by decide)) (And.intro (oh_ne c_13 (k := 6) (by decide)) (And.intro (oh_ne c_16 (k := 7) (by decide)) trivial))); omega) (by decide) ?_
              refine lv_iconst (v := (-1)) hx hb dX6_status_108 (by decide) ?_
              rw [hQ]
              exact W.iret (v := (-1)) hx hb hr (fun t ht hW => ⟨(-1), rfl, trivial, ht⟩) (fun q h => by cases h) dX6_status_109
    · have u_19 := hq_6.2.1 c_7
      refine lv_aload_n hx hb dX6_status_30 rfl (lv_at hl 0 rfl) ?_
      refine va_get (D := D) (ci := 6) (v := .ref (a 7)) (C := RX6) (T := TX6) (N := 9) hx hb htg ig_6 hown hK hP 0 (oh_wg (by decide) (sX_0 hT)) rfl 7 (by decide) (htg _ q_265) (fun _ h9 => h9) rfl dX6_status_31 ?_
      refine lv_iload_n hx hb dX6_status_34 rfl (lv_at hl 1 rfl) ?_
      refine lv_bipush (v := 12) hx hb dX6_status_35 (by decide) ?_
      refine lv_isub hx hb dX6_status_37 ?_
      have n_20 : vp_in (x1 - 12) 5 := (rg_in (rg_sub (lo := 0) (hi := 4) (rn_leu u_19.2 (rn_lel u_19.1 (rg_c (v := 12) (lo := 12) (hi := 12) (by decide)) (rg_any _)) (rg_c (v := 16) (lo := 16) (hi := 16) (by decide))) (rg_c (v := 12) (lo := 12) (hi := 12) (by decide)) (by decide)) (by decide))
      refine th_iald hx hb hK hP 7 (by decide) (sX_7 hT) n_20 dX6_status_38 ?_
      rw [hQ]
      exact W.iret (v := ga (C 7) (x1 - 12).toNatClampNeg) hx hb hr (fun t ht hW => ⟨ga (C 7) (x1 - 12).toNatClampNeg, rfl, trivial, ht⟩) (fun q h => by cases h) dX6_status_39
  · have u_21 := hq_2.2.1 c_3
    refine lv_aload_n hx hb dX6_status_9 rfl (lv_at hl 0 rfl) ?_
    refine va_get (D := D) (ci := 6) (v := .ref (a 1)) (C := RX6) (T := TX6) (N := 9) hx hb htg ig_6 hown hK hP 0 (oh_wg (by decide) (sX_0 hT)) rfl 0 (by decide) (htg _ q_258) (fun _ h9 => h9) rfl dX6_status_10 ?_
    refine va_get (D := D) (ci := 0) (v := .ref (a 10)) (C := RX0) (T := TX0) (N := 8) hx hb htg ig_0 hown hK hP 1 (oh_wg (by decide) (sX_1 hT)) rfl 0 (by decide) (htg _ q_100) (fun _ h9 => h9) rfl dX6_status_13 ?_
    refine lv_iload_n hx hb dX6_status_16 rfl (lv_at hl 1 rfl) ?_
    have n_22 : vp_in x1 4 := (rg_in (rn_leu u_21.2 (rn_lel u_21.1 (rg_c (v := 0) (lo := 0) (hi := 0) (by decide)) (rg_any _)) (rg_c (v := 3) (lo := 3) (hi := 3) (by decide))) (by decide))
    refine th_iald hx hb hK hP 10 (by decide) (sX_10 hT) n_22 dX6_status_17 ?_
    rw [hQ]
    exact W.iret (v := ga (C 10) (x1).toNatClampNeg) hx hb hr (fun t ht hW => ⟨ga (C 10) (x1).toNatClampNeg, rfl, trivial, ht⟩) (fun q h => by cases h) dX6_status_18
theorem bg_dJ0_charAt_5068e_0 : bysAt cJ0_charAt_5068e 0 [42, 182, 1, 236, 153, 0, 12, 42, 180, 0, 9, 27, 184, 1, 239, 172] := bysAt_of (by decide +kernel)
theorem dJ0_charAt_5068e_0 : decode cJ0_charAt_5068e 0 = .ok (.aload_n 0, 1) := o_42 (bg_dJ0_charAt_5068e_0 0 42 rfl)
theorem dJ0_charAt_5068e_1 : decode cJ0_charAt_5068e 1 = .ok (.invokevirtual 492, 3) := o_182 (bg_dJ0_charAt_5068e_0 1 182 rfl) (bg_dJ0_charAt_5068e_0 2 1 rfl) (bg_dJ0_charAt_5068e_0 3 236 rfl)
theorem dJ0_charAt_5068e_4 : decode cJ0_charAt_5068e 4 = .ok (.ifCond .eq 12, 3) := o_153 (bg_dJ0_charAt_5068e_0 4 153 rfl) (bg_dJ0_charAt_5068e_0 5 0 rfl) (bg_dJ0_charAt_5068e_0 6 12 rfl) (by decide +kernel)
theorem dJ0_charAt_5068e_7 : decode cJ0_charAt_5068e 7 = .ok (.aload_n 0, 1) := o_42 (bg_dJ0_charAt_5068e_0 7 42 rfl)
theorem dJ0_charAt_5068e_8 : decode cJ0_charAt_5068e 8 = .ok (.getfield 9, 3) := o_180 (bg_dJ0_charAt_5068e_0 8 180 rfl) (bg_dJ0_charAt_5068e_0 9 0 rfl) (bg_dJ0_charAt_5068e_0 10 9 rfl)
theorem dJ0_charAt_5068e_11 : decode cJ0_charAt_5068e 11 = .ok (.iload_n 1, 1) := o_27 (bg_dJ0_charAt_5068e_0 11 27 rfl)
theorem dJ0_charAt_5068e_12 : decode cJ0_charAt_5068e 12 = .ok (.invokestatic 495, 3) := o_184 (bg_dJ0_charAt_5068e_0 12 184 rfl) (bg_dJ0_charAt_5068e_0 13 1 rfl) (bg_dJ0_charAt_5068e_0 14 239 rfl)
theorem dJ0_charAt_5068e_15 : decode cJ0_charAt_5068e 15 = .ok (.ireturn, 1) := o_172 (bg_dJ0_charAt_5068e_0 15 172 rfl)
theorem bg_dJ0_checkIndex_df160_0 : bysAt cJ0_checkIndex_df160 0 [26, 27, 178, 4, 29, 184, 4, 35, 87, 177] := bysAt_of (by decide +kernel)
theorem dJ0_checkIndex_df160_0 : decode cJ0_checkIndex_df160 0 = .ok (.iload_n 0, 1) := o_26 (bg_dJ0_checkIndex_df160_0 0 26 rfl)
theorem dJ0_checkIndex_df160_1 : decode cJ0_checkIndex_df160 1 = .ok (.iload_n 1, 1) := o_27 (bg_dJ0_checkIndex_df160_0 1 27 rfl)
theorem dJ0_checkIndex_df160_2 : decode cJ0_checkIndex_df160 2 = .ok (.getstatic 1053, 3) := o_178 (bg_dJ0_checkIndex_df160_0 2 178 rfl) (bg_dJ0_checkIndex_df160_0 3 4 rfl) (bg_dJ0_checkIndex_df160_0 4 29 rfl)
theorem dJ0_checkIndex_df160_5 : decode cJ0_checkIndex_df160 5 = .ok (.invokestatic 1059, 3) := o_184 (bg_dJ0_checkIndex_df160_0 5 184 rfl) (bg_dJ0_checkIndex_df160_0 6 4 rfl) (bg_dJ0_checkIndex_df160_0 7 35 rfl)
theorem dJ0_checkIndex_df160_8 : decode cJ0_checkIndex_df160 8 = .ok (.pop, 1) := o_87 (bg_dJ0_checkIndex_df160_0 8 87 rfl)
theorem dJ0_checkIndex_df160_9 : decode cJ0_checkIndex_df160 9 = .ok (.return_, 1) := o_177 (bg_dJ0_checkIndex_df160_0 9 177 rfl)
theorem bg_dJ0_coder_7d493_0 : bysAt cJ0_coder_7d493 0 [178, 0, 38, 153, 0, 10, 42, 180, 0, 15, 167, 0, 4, 4, 172] := bysAt_of (by decide +kernel)
theorem dJ0_coder_7d493_0 : decode cJ0_coder_7d493 0 = .ok (.getstatic 38, 3) := o_178 (bg_dJ0_coder_7d493_0 0 178 rfl) (bg_dJ0_coder_7d493_0 1 0 rfl) (bg_dJ0_coder_7d493_0 2 38 rfl)
theorem dJ0_coder_7d493_3 : decode cJ0_coder_7d493 3 = .ok (.ifCond .eq 10, 3) := o_153 (bg_dJ0_coder_7d493_0 3 153 rfl) (bg_dJ0_coder_7d493_0 4 0 rfl) (bg_dJ0_coder_7d493_0 5 10 rfl) (by decide +kernel)
theorem dJ0_coder_7d493_6 : decode cJ0_coder_7d493 6 = .ok (.aload_n 0, 1) := o_42 (bg_dJ0_coder_7d493_0 6 42 rfl)
theorem dJ0_coder_7d493_7 : decode cJ0_coder_7d493 7 = .ok (.getfield 15, 3) := o_180 (bg_dJ0_coder_7d493_0 7 180 rfl) (bg_dJ0_coder_7d493_0 8 0 rfl) (bg_dJ0_coder_7d493_0 9 15 rfl)
theorem dJ0_coder_7d493_10 : decode cJ0_coder_7d493 10 = .ok (.goto 4, 3) := o_167 (bg_dJ0_coder_7d493_0 10 167 rfl) (bg_dJ0_coder_7d493_0 11 0 rfl) (bg_dJ0_coder_7d493_0 12 4 rfl) (by decide +kernel)
theorem dJ0_coder_7d493_14 : decode cJ0_coder_7d493 14 = .ok (.ireturn, 1) := o_172 (bg_dJ0_coder_7d493_0 14 172 rfl)
theorem bg_dJ0_isLatin1_aae02_0 : bysAt cJ0_isLatin1_aae02 0 [178, 0, 38, 153, 0, 14, 42, 180, 0, 15, 154, 0, 7, 4, 167, 0, 4, 3, 172] := bysAt_of (by decide +kernel)
theorem dJ0_isLatin1_aae02_0 : decode cJ0_isLatin1_aae02 0 = .ok (.getstatic 38, 3) := o_178 (bg_dJ0_isLatin1_aae02_0 0 178 rfl) (bg_dJ0_isLatin1_aae02_0 1 0 rfl) (bg_dJ0_isLatin1_aae02_0 2 38 rfl)
theorem dJ0_isLatin1_aae02_3 : decode cJ0_isLatin1_aae02 3 = .ok (.ifCond .eq 14, 3) := o_153 (bg_dJ0_isLatin1_aae02_0 3 153 rfl) (bg_dJ0_isLatin1_aae02_0 4 0 rfl) (bg_dJ0_isLatin1_aae02_0 5 14 rfl) (by decide +kernel)
theorem dJ0_isLatin1_aae02_6 : decode cJ0_isLatin1_aae02 6 = .ok (.aload_n 0, 1) := o_42 (bg_dJ0_isLatin1_aae02_0 6 42 rfl)
theorem dJ0_isLatin1_aae02_7 : decode cJ0_isLatin1_aae02 7 = .ok (.getfield 15, 3) := o_180 (bg_dJ0_isLatin1_aae02_0 7 180 rfl) (bg_dJ0_isLatin1_aae02_0 8 0 rfl) (bg_dJ0_isLatin1_aae02_0 9 15 rfl)
theorem dJ0_isLatin1_aae02_10 : decode cJ0_isLatin1_aae02 10 = .ok (.ifCond .ne 7, 3) := o_154 (bg_dJ0_isLatin1_aae02_0 10 154 rfl) (bg_dJ0_isLatin1_aae02_0 11 0 rfl) (bg_dJ0_isLatin1_aae02_0 12 7 rfl) (by decide +kernel)
theorem dJ0_isLatin1_aae02_13 : decode cJ0_isLatin1_aae02 13 = .ok (.iconst 1, 1) := o_4 (bg_dJ0_isLatin1_aae02_0 13 4 rfl)
theorem dJ0_isLatin1_aae02_14 : decode cJ0_isLatin1_aae02 14 = .ok (.goto 4, 3) := o_167 (bg_dJ0_isLatin1_aae02_0 14 167 rfl) (bg_dJ0_isLatin1_aae02_0 15 0 rfl) (bg_dJ0_isLatin1_aae02_0 16 4 rfl) (by decide +kernel)
theorem dJ0_isLatin1_aae02_18 : decode cJ0_isLatin1_aae02 18 = .ok (.ireturn, 1) := o_172 (bg_dJ0_isLatin1_aae02_0 18 172 rfl)
theorem bg_dJ0_length_8abf5_0 : bysAt cJ0_length_8abf5 0 [42, 180, 0, 9, 190, 42, 182, 1, 79, 122, 172] := bysAt_of (by decide +kernel)
theorem dJ0_length_8abf5_0 : decode cJ0_length_8abf5 0 = .ok (.aload_n 0, 1) := o_42 (bg_dJ0_length_8abf5_0 0 42 rfl)
theorem dJ0_length_8abf5_1 : decode cJ0_length_8abf5 1 = .ok (.getfield 9, 3) := o_180 (bg_dJ0_length_8abf5_0 1 180 rfl) (bg_dJ0_length_8abf5_0 2 0 rfl) (bg_dJ0_length_8abf5_0 3 9 rfl)
theorem dJ0_length_8abf5_4 : decode cJ0_length_8abf5 4 = .ok (.arraylength, 1) := o_190 (bg_dJ0_length_8abf5_0 4 190 rfl)
theorem dJ0_length_8abf5_5 : decode cJ0_length_8abf5 5 = .ok (.aload_n 0, 1) := o_42 (bg_dJ0_length_8abf5_0 5 42 rfl)
theorem dJ0_length_8abf5_6 : decode cJ0_length_8abf5 6 = .ok (.invokevirtual 335, 3) := o_182 (bg_dJ0_length_8abf5_0 6 182 rfl) (bg_dJ0_length_8abf5_0 7 1 rfl) (bg_dJ0_length_8abf5_0 8 79 rfl)
theorem dJ0_length_8abf5_9 : decode cJ0_length_8abf5 9 = .ok (.ishr, 1) := o_122 (bg_dJ0_length_8abf5_0 9 122 rfl)
theorem dJ0_length_8abf5_10 : decode cJ0_length_8abf5 10 = .ok (.ireturn, 1) := o_172 (bg_dJ0_length_8abf5_0 10 172 rfl)
theorem bg_dJ1_charAt_3b067_0 : bysAt cJ1_charAt_3b067 0 [27, 42, 190, 184, 0, 9, 42, 27, 51, 17, 0, 255, 126, 146, 172] := bysAt_of (by decide +kernel)
theorem dJ1_charAt_3b067_0 : decode cJ1_charAt_3b067 0 = .ok (.iload_n 1, 1) := o_27 (bg_dJ1_charAt_3b067_0 0 27 rfl)
theorem dJ1_charAt_3b067_1 : decode cJ1_charAt_3b067 1 = .ok (.aload_n 0, 1) := o_42 (bg_dJ1_charAt_3b067_0 1 42 rfl)
theorem dJ1_charAt_3b067_2 : decode cJ1_charAt_3b067 2 = .ok (.arraylength, 1) := o_190 (bg_dJ1_charAt_3b067_0 2 190 rfl)
theorem dJ1_charAt_3b067_3 : decode cJ1_charAt_3b067 3 = .ok (.invokestatic 9, 3) := o_184 (bg_dJ1_charAt_3b067_0 3 184 rfl) (bg_dJ1_charAt_3b067_0 4 0 rfl) (bg_dJ1_charAt_3b067_0 5 9 rfl)
theorem dJ1_charAt_3b067_6 : decode cJ1_charAt_3b067 6 = .ok (.aload_n 0, 1) := o_42 (bg_dJ1_charAt_3b067_0 6 42 rfl)
theorem dJ1_charAt_3b067_7 : decode cJ1_charAt_3b067 7 = .ok (.iload_n 1, 1) := o_27 (bg_dJ1_charAt_3b067_0 7 27 rfl)
theorem dJ1_charAt_3b067_8 : decode cJ1_charAt_3b067 8 = .ok (.baload, 1) := o_51 (bg_dJ1_charAt_3b067_0 8 51 rfl)
theorem dJ1_charAt_3b067_9 : decode cJ1_charAt_3b067 9 = .ok (.sipush 255, 3) := o_17 (bg_dJ1_charAt_3b067_0 9 17 rfl) (bg_dJ1_charAt_3b067_0 10 0 rfl) (bg_dJ1_charAt_3b067_0 11 255 rfl) (by decide +kernel)
theorem dJ1_charAt_3b067_12 : decode cJ1_charAt_3b067 12 = .ok (.iand, 1) := o_126 (bg_dJ1_charAt_3b067_0 12 126 rfl)
theorem dJ1_charAt_3b067_13 : decode cJ1_charAt_3b067 13 = .ok (.i2c, 1) := o_146 (bg_dJ1_charAt_3b067_0 13 146 rfl)
theorem dJ1_charAt_3b067_14 : decode cJ1_charAt_3b067 14 = .ok (.ireturn, 1) := o_172 (bg_dJ1_charAt_3b067_0 14 172 rfl)
theorem bg_dJ3_checkIndex_8e157_0 : bysAt cJ3_checkIndex_8e157 0 [26, 155, 0, 8, 26, 27, 161, 0, 10, 44, 26, 27, 184, 0, 95, 191, 26, 172] := bysAt_of (by decide +kernel)
theorem dJ3_checkIndex_8e157_0 : decode cJ3_checkIndex_8e157 0 = .ok (.iload_n 0, 1) := o_26 (bg_dJ3_checkIndex_8e157_0 0 26 rfl)
theorem dJ3_checkIndex_8e157_1 : decode cJ3_checkIndex_8e157 1 = .ok (.ifCond .lt 8, 3) := o_155 (bg_dJ3_checkIndex_8e157_0 1 155 rfl) (bg_dJ3_checkIndex_8e157_0 2 0 rfl) (bg_dJ3_checkIndex_8e157_0 3 8 rfl) (by decide +kernel)
theorem dJ3_checkIndex_8e157_4 : decode cJ3_checkIndex_8e157 4 = .ok (.iload_n 0, 1) := o_26 (bg_dJ3_checkIndex_8e157_0 4 26 rfl)
theorem dJ3_checkIndex_8e157_5 : decode cJ3_checkIndex_8e157 5 = .ok (.iload_n 1, 1) := o_27 (bg_dJ3_checkIndex_8e157_0 5 27 rfl)
theorem dJ3_checkIndex_8e157_6 : decode cJ3_checkIndex_8e157 6 = .ok (.if_icmp .lt 10, 3) := o_161 (bg_dJ3_checkIndex_8e157_0 6 161 rfl) (bg_dJ3_checkIndex_8e157_0 7 0 rfl) (bg_dJ3_checkIndex_8e157_0 8 10 rfl) (by decide +kernel)
theorem dJ3_checkIndex_8e157_16 : decode cJ3_checkIndex_8e157 16 = .ok (.iload_n 0, 1) := o_26 (bg_dJ3_checkIndex_8e157_0 16 26 rfl)
theorem dJ3_checkIndex_8e157_17 : decode cJ3_checkIndex_8e157 17 = .ok (.ireturn, 1) := o_172 (bg_dJ3_checkIndex_8e157_0 17 172 rfl)
theorem pdJ0_checkIndex_df160 : yJ0_checkIndex_df160.cls ≠ "java/lang/invoke/MethodHandle" ∧ yJ0_checkIndex_df160.cls ≠ "java/lang/invoke/VarHandle" ∧ (parseMethodDescriptor yJ0_checkIndex_df160.desc).map (fun d => d.parameters.length) = some 2 := by decide +kernel
theorem pdVJ0_coder_7d493 : yJ0_coder_7d493.cls = RJ0 ∧ yJ0_coder_7d493.cls ≠ "java/lang/invoke/MethodHandle" ∧ yJ0_coder_7d493.cls ≠ "java/lang/invoke/VarHandle" ∧ (parseMethodDescriptor yJ0_coder_7d493.desc).map (fun d => d.parameters.length) = some 0 := by decide +kernel
theorem pdVJ0_isLatin1_aae02 : yJ0_isLatin1_aae02.cls = RJ0 ∧ yJ0_isLatin1_aae02.cls ≠ "java/lang/invoke/MethodHandle" ∧ yJ0_isLatin1_aae02.cls ≠ "java/lang/invoke/VarHandle" ∧ (parseMethodDescriptor yJ0_isLatin1_aae02.desc).map (fun d => d.parameters.length) = some 0 := by decide +kernel
theorem pdJ1_charAt_3b067 : yJ1_charAt_3b067.cls ≠ "java/lang/invoke/MethodHandle" ∧ yJ1_charAt_3b067.cls ≠ "java/lang/invoke/VarHandle" ∧ (parseMethodDescriptor yJ1_charAt_3b067.desc).map (fun d => d.parameters.length) = some 2 := by decide +kernel
theorem pdJ3_checkIndex_8e157 : yJ3_checkIndex_8e157.cls ≠ "java/lang/invoke/MethodHandle" ∧ yJ3_checkIndex_8e157.cls ≠ "java/lang/invoke/VarHandle" ∧ (parseMethodDescriptor yJ3_checkIndex_8e157.desc).map (fun d => d.parameters.length) = some 3 := by decide +kernel
theorem oh_lenr0 : ∀ j : Nat, j < 34 → (3 ≤ (Int32.ofNat (oh_len j)).toInt ∧ (Int32.ofNat (oh_len j)).toInt ≤ 6) := by decide
theorem oh_lenr {j : Nat} (h : j < 34) : rg (Int32.ofNat (oh_len j)) 3 6 := oh_lenr0 j h
theorem oh_lenn0 : ∀ j : Nat, j < 34 → (Int32.ofNat (oh_len j)).toInt = (oh_len j : Int) := by decide
theorem oh_shr0 (x : Int32) : x >>> ((0 : Int32) &&& 31) = x := by
  rw [show ((0 : Int32) &&& 31) = 0 by decide]
  exact Int32.shiftRight_zero
theorem oh_chr0 : ∀ j : Nat, j < 34 → ∀ i : Nat, i < 6 → ((oh_byt j i &&& 255).toUInt32 % 65536).toInt32 = oh_byt j i ∧ narrow .char (.int (((oh_byt j i &&& 255).toUInt32 % 65536).toInt32)) = .int (((oh_byt j i &&& 255).toUInt32 % 65536).toInt32) := by decide +kernel
theorem oh_chin {j : Nat} (hj : j < 34) {x : Int32} (h1 : ¬ x < 0) (h2 : x < Int32.ofNat (oh_len j)) : vp_in x (oh_len j) := by
  have a := Int32.lt_iff_toInt_lt.mp h2
  rw [oh_lenn0 j hj] at a
  have b := Int32.le_iff_toInt_le.mp (Int32.not_lt.mp h1)
  exact vp_in_iff.mpr ⟨b, a⟩
theorem oh_chr {j : Nat} (hj : j < 34) {x : Int32} (h1 : ¬ x < 0) (h2 : x < Int32.ofNat (oh_len j)) : ((oh_byt j x.toNatClampNeg &&& 255).toUInt32 % 65536).toInt32 = oh_byt j x.toNatClampNeg ∧ narrow .char (.int (((oh_byt j x.toNatClampNeg &&& 255).toUInt32 % 65536).toInt32)) = .int (((oh_byt j x.toNatClampNeg &&& 255).toUInt32 % 65536).toInt32) := by
  refine oh_chr0 j hj _ ?_
  have a := Int32.lt_iff_toInt_lt.mp h2
  have b := (oh_lenr hj).2
  show x.toInt.toNat < 6
  omega
theorem oh_nfl {x : Int32} (h : rg x 0 250) : ¬ x = -1 := by
  intro e
  subst e
  exact absurd h.1 (by decide)

set_option maxHeartbeats 4000000 in
set_option maxRecDepth 100000 in
theorem c_J0_coder_7d493 (l : Launch) (D : va_G) (E : Nat → ClassId) (G : Nat → Nat) (j : Nat) (hj : j < 34) : Met l yJ0_coder_7d493 (oh_w yJ0_coder_7d493 cJ0_coder_7d493 1 (some .byte)) ({ frames := 0, cells := 0, slots := 0, locals := 0 }) (oh_Pp D E G [.ref (G (3 + j))] []) (vp_Si (fun r => r = 0)) 0 0 (fun _ => False) := by
  refine Met.ofW (cc := cJ0_coder_7d493) (maxL := 1) (ret := (some .byte)) (by decide) rfl ?_
  intro p e s m args below meth c s₁ B hml hv
  obtain ⟨rfl, hP, hK, hG⟩ := hv
  have hx := B.exec
  have hb := B.bytes
  have hr := B.returns
  have hts := atoms_spec (ws := (oh_w yJ0_coder_7d493 cJ0_coder_7d493 1 (some .byte))) B.pre
  have htg : ∀ w ∈ oh_t, w.before _ s = true := fun w h => hts w (List.mem_cons_of_mem _ h)
  have hown : s.vm.findClass RJ0 = some m.cls := findClass_of_methodNamed B.named
  have hlocks := B.notSynchronized
  have hS : va_S (fun _ => False) s.heap s.heap [] := va_S.rf
  have hl := lv_entry ([.ref (G (3 + j))]) (n := 1) (Nat.le_of_ble_eq_true rfl)
  rw [lg_entry_eq]
  generalize (lg_sl ([.ref (G (3 + j))]) ++ List.replicate (1 - (lg_sl ([.ref (G (3 + j))])).length) Slot.unset).toArray = ls at hl ⊢
  have hl : lv_has ls 1 [(0, .ref (G (3 + j)))] := hl
  refine oh_genQ (fun Q hQ => ?_)
  refine va_gets hx hb hG.2.2.2.2.2.2.2.2.1 hS hown (htg _ q_529) (fun _ h9 => h9) dJ0_coder_7d493_0 ?_
  refine lv_if_eq (tgt := 13) hx hb dJ0_coder_7d493_3 (by decide) (fun c => absurd c (show ¬ ((1 : Int32) = 0) from by decide)) (fun _ => ?_)
  refine lv_aload_n hx hb dJ0_coder_7d493_6 rfl (lv_at hl 0 rfl) ?_
  refine vk_getf (v := .int 0) hx hb (hG.2.2.2.2.2.2.2.2.2.2 j hj).2.1 hS hown (htg _ q_1448) (fun _ h9 => h9) dJ0_coder_7d493_7 ?_
  refine lv_goto (tgt := 14) hx hb dJ0_coder_7d493_10 (by decide) ?_
  rw [hQ]
  exact W.zret (v := 0) (ty := .byte) hx hb hr (by decide) (fun t ht hW => ⟨0, rfl, rfl, ht⟩) (fun q h => by cases h) dJ0_coder_7d493_14

set_option maxHeartbeats 4000000 in
set_option maxRecDepth 100000 in
theorem c_J0_isLatin1_aae02 (l : Launch) (D : va_G) (E : Nat → ClassId) (G : Nat → Nat) (j : Nat) (hj : j < 34) : Met l yJ0_isLatin1_aae02 (oh_w yJ0_isLatin1_aae02 cJ0_isLatin1_aae02 1 (some .boolean)) ({ frames := 0, cells := 0, slots := 0, locals := 0 }) (oh_Pp D E G [.ref (G (3 + j))] []) (vp_Si (fun r => r = 1)) 0 0 (fun _ => False) := by
  refine Met.ofW (cc := cJ0_isLatin1_aae02) (maxL := 1) (ret := (some .boolean)) (by decide) rfl ?_
  intro p e s m args below meth c s₁ B hml hv
  obtain ⟨rfl, hP, hK, hG⟩ := hv
  have hx := B.exec
  have hb := B.bytes
  have hr := B.returns
  have hts := atoms_spec (ws := (oh_w yJ0_isLatin1_aae02 cJ0_isLatin1_aae02 1 (some .boolean))) B.pre
  have htg : ∀ w ∈ oh_t, w.before _ s = true := fun w h => hts w (List.mem_cons_of_mem _ h)
  have hown : s.vm.findClass RJ0 = some m.cls := findClass_of_methodNamed B.named
  have hlocks := B.notSynchronized
  have hS : va_S (fun _ => False) s.heap s.heap [] := va_S.rf
  have hl := lv_entry ([.ref (G (3 + j))]) (n := 1) (Nat.le_of_ble_eq_true rfl)
  rw [lg_entry_eq]
  generalize (lg_sl ([.ref (G (3 + j))]) ++ List.replicate (1 - (lg_sl ([.ref (G (3 + j))])).length) Slot.unset).toArray = ls at hl ⊢
  have hl : lv_has ls 1 [(0, .ref (G (3 + j)))] := hl
  refine oh_genQ (fun Q hQ => ?_)
  refine va_gets hx hb hG.2.2.2.2.2.2.2.2.1 hS hown (htg _ q_529) (fun _ h9 => h9) dJ0_isLatin1_aae02_0 ?_
  refine lv_if_eq (tgt := 17) hx hb dJ0_isLatin1_aae02_3 (by decide) (fun c => absurd c (show ¬ ((1 : Int32) = 0) from by decide)) (fun _ => ?_)
  refine lv_aload_n hx hb dJ0_isLatin1_aae02_6 rfl (lv_at hl 0 rfl) ?_
  refine vk_getf (v := .int 0) hx hb (hG.2.2.2.2.2.2.2.2.2.2 j hj).2.1 hS hown (htg _ q_1448) (fun _ h9 => h9) dJ0_isLatin1_aae02_7 ?_
  refine lv_if_ne (tgt := 17) hx hb dJ0_isLatin1_aae02_10 (by decide) (fun c => absurd (show (0 : Int32) = 0 from by decide) c) (fun _ => ?_)
  refine lv_iconst (v := 1) hx hb dJ0_isLatin1_aae02_13 (by decide) ?_
  refine lv_goto (tgt := 18) hx hb dJ0_isLatin1_aae02_14 (by decide) ?_
  rw [hQ]
  exact W.zret (v := 1) (ty := .boolean) hx hb hr (by decide) (fun t ht hW => ⟨1, rfl, rfl, ht⟩) (fun q h => by cases h) dJ0_isLatin1_aae02_18

set_option maxHeartbeats 4000000 in
set_option maxRecDepth 100000 in
theorem c_J0_length_8abf5 (l : Launch) (D : va_G) (E : Nat → ClassId) (G : Nat → Nat) (j : Nat) (hj : j < 34) : Met l yJ0_length_8abf5 (oh_w yJ0_length_8abf5 cJ0_length_8abf5 1 (some .int)) ({ frames := 1, cells := 0, slots := 0, locals := 20 }) (oh_Pp D E G [.ref (G (3 + j))] []) (vp_Si (fun r => r = Int32.ofNat (oh_len j))) 0 0 (fun _ => False) := by
  refine Met.ofW (cc := cJ0_length_8abf5) (maxL := 1) (ret := (some .int)) (by decide) rfl ?_
  intro p e s m args below meth c s₁ B hml hv
  obtain ⟨rfl, hP, hK, hG⟩ := hv
  have hx := B.exec
  have hb := B.bytes
  have hr := B.returns
  have hts := atoms_spec (ws := (oh_w yJ0_length_8abf5 cJ0_length_8abf5 1 (some .int))) B.pre
  have htg : ∀ w ∈ oh_t, w.before _ s = true := fun w h => hts w (List.mem_cons_of_mem _ h)
  have hown : s.vm.findClass RJ0 = some m.cls := findClass_of_methodNamed B.named
  have hlocks := B.notSynchronized
  have hS : va_S (fun _ => False) s.heap s.heap [] := va_S.rf
  have hl := lv_entry ([.ref (G (3 + j))]) (n := 1) (Nat.le_of_ble_eq_true rfl)
  rw [lg_entry_eq]
  generalize (lg_sl ([.ref (G (3 + j))]) ++ List.replicate (1 - (lg_sl ([.ref (G (3 + j))])).length) Slot.unset).toArray = ls at hl ⊢
  have hl : lv_has ls 1 [(0, .ref (G (3 + j)))] := hl
  refine oh_genQ (fun Q hQ => ?_)
  refine lv_aload_n hx hb dJ0_length_8abf5_0 rfl (lv_at hl 0 rfl) ?_
  refine vk_getf (v := .ref (G (40 + j))) hx hb (hG.2.2.2.2.2.2.2.2.2.2 j hj).2.2.1 hS hown (htg _ q_1447) (fun _ h9 => h9) dJ0_length_8abf5_1 ?_
  refine va_tlen (v := Int32.ofNat (oh_len j)) hx hb (hG.2.2.2.2.2.2.2.2.2.2 j hj).2.2.2 hS rfl dJ0_length_8abf5_4 ?_
  refine lv_aload_n hx hb dJ0_length_8abf5_5 rfl (lv_at hl 0 rfl) ?_
  refine tq_V (As := []) (rest := [.int (Int32.ofNat (oh_len j))]) (ws := []) ⟨hx, hb, hml, hown, htg⟩ (c_J0_coder_7d493 l D E G j hj) (cwV 0 htg (oh_gV q_525 q_526 q_527 q_75 q_528) rfl rfl rfl pdVJ0_coder_7d493 ⟨Nat.le_of_ble_eq_true rfl, Nat.le_of_ble_eq_true rfl⟩) hK va_nil hG hS (oh_srec hG hS hj) rfl hl.1 rfl (Nat.le_of_ble_eq_true rfl) dJ0_length_8abf5_6 ⟨Nat.le_of_ble_eq_true rfl, Nat.le_of_ble_eq_true rfl⟩ (fun r_1 hq_2 => ?_)
  subst hq_2
  refine lv_ishr hx hb dJ0_length_8abf5_9 ?_
  rw [hQ]
  exact W.iret (v := (Int32.ofNat (oh_len j)) >>> ((0 : Int32) &&& 31)) hx hb hr (fun t ht hW => ⟨(Int32.ofNat (oh_len j)) >>> ((0 : Int32) &&& 31), rfl, (oh_shr0 _), ht⟩) (fun q h => by cases h) dJ0_length_8abf5_10

set_option maxHeartbeats 4000000 in
set_option maxRecDepth 100000 in
theorem c_J3_checkIndex_n (l : Launch) (D : va_G) (E : Nat → ClassId) (G : Nat → Nat) (x1 : Int32) (x2 : Int32) (h1 : ¬ x1 < 0) (h2 : x1 < x2) : Met l yJ3_checkIndex_8e157 (oh_w yJ3_checkIndex_8e157 cJ3_checkIndex_8e157 3 (some .int)) ({ frames := 0, cells := 0, slots := 0, locals := 0 }) (oh_Pp D E G [.int x1, .int x2, .null] []) (vp_Si (fun r => True)) 0 0 (fun _ => False) := by
  refine Met.ofW (cc := cJ3_checkIndex_8e157) (maxL := 3) (ret := (some .int)) (by decide) rfl ?_
  intro p e s m args below meth c s₁ B hml hv
  obtain ⟨rfl, hP, hK, hG⟩ := hv
  have hx := B.exec
  have hb := B.bytes
  have hr := B.returns
  have hts := atoms_spec (ws := (oh_w yJ3_checkIndex_8e157 cJ3_checkIndex_8e157 3 (some .int))) B.pre
  have htg : ∀ w ∈ oh_t, w.before _ s = true := fun w h => hts w (List.mem_cons_of_mem _ h)
  have hown : s.vm.findClass RJ3 = some m.cls := findClass_of_methodNamed B.named
  have hlocks := B.notSynchronized
  have hS : va_S (fun _ => False) s.heap s.heap [] := va_S.rf
  have hl := lv_entry ([.int x1, .int x2, .null]) (n := 3) (Nat.le_of_ble_eq_true rfl)
  rw [lg_entry_eq]
  generalize (lg_sl ([.int x1, .int x2, .null]) ++ List.replicate (3 - (lg_sl ([.int x1, .int x2, .null])).length) Slot.unset).toArray = ls at hl ⊢
  have hl : lv_has ls 3 [(0, .int x1), (1, .int x2), (2, .null)] := hl
  refine oh_genQ (fun Q hQ => ?_)
  refine lv_iload_n hx hb dJ3_checkIndex_8e157_0 rfl (lv_at hl 0 rfl) ?_
  refine lv_if_lt (tgt := 9) hx hb dJ3_checkIndex_8e157_1 (by decide) (fun c => absurd c (show ¬ (x1 < 0) from h1)) (fun _ => ?_)
  refine lv_iload_n hx hb dJ3_checkIndex_8e157_4 rfl (lv_at hl 0 rfl) ?_
  refine lv_iload_n hx hb dJ3_checkIndex_8e157_5 rfl (lv_at hl 1 rfl) ?_
  refine lv_icmp_lt (tgt := 16) hx hb dJ3_checkIndex_8e157_6 (by decide) (fun _ => ?_) (fun c => absurd (show x1 < x2 from h2) c)
  refine lv_iload_n hx hb dJ3_checkIndex_8e157_16 rfl (lv_at hl 0 rfl) ?_
  rw [hQ]
  exact W.iret (v := x1) hx hb hr (fun t ht hW => ⟨x1, rfl, trivial, ht⟩) (fun q h => by cases h) dJ3_checkIndex_8e157_17

set_option maxHeartbeats 4000000 in
set_option maxRecDepth 100000 in
theorem c_J3_checkIndex_r (l : Launch) (D : va_G) (E : Nat → ClassId) (G : Nat → Nat) (x1 : Int32) (x2 : Int32) (t : Nat) (h1 : ¬ x1 < 0) (h2 : x1 < x2) : Met l yJ3_checkIndex_8e157 (oh_w yJ3_checkIndex_8e157 cJ3_checkIndex_8e157 3 (some .int)) ({ frames := 0, cells := 0, slots := 0, locals := 0 }) (oh_Pp D E G [.int x1, .int x2, .ref t] []) (vp_Si (fun r => True)) 0 0 (fun _ => False) := by
  refine Met.ofW (cc := cJ3_checkIndex_8e157) (maxL := 3) (ret := (some .int)) (by decide) rfl ?_
  intro p e s m args below meth c s₁ B hml hv
  obtain ⟨rfl, hP, hK, hG⟩ := hv
  have hx := B.exec
  have hb := B.bytes
  have hr := B.returns
  have hts := atoms_spec (ws := (oh_w yJ3_checkIndex_8e157 cJ3_checkIndex_8e157 3 (some .int))) B.pre
  have htg : ∀ w ∈ oh_t, w.before _ s = true := fun w h => hts w (List.mem_cons_of_mem _ h)
  have hown : s.vm.findClass RJ3 = some m.cls := findClass_of_methodNamed B.named
  have hlocks := B.notSynchronized
  have hS : va_S (fun _ => False) s.heap s.heap [] := va_S.rf
  have hl := lv_entry ([.int x1, .int x2, .ref t]) (n := 3) (Nat.le_of_ble_eq_true rfl)
  rw [lg_entry_eq]
  generalize (lg_sl ([.int x1, .int x2, .ref t]) ++ List.replicate (3 - (lg_sl ([.int x1, .int x2, .ref t])).length) Slot.unset).toArray = ls at hl ⊢
  have hl : lv_has ls 3 [(0, .int x1), (1, .int x2), (2, .ref t)] := hl
  refine oh_genQ (fun Q hQ => ?_)
  refine lv_iload_n hx hb dJ3_checkIndex_8e157_0 rfl (lv_at hl 0 rfl) ?_
  refine lv_if_lt (tgt := 9) hx hb dJ3_checkIndex_8e157_1 (by decide) (fun c => absurd c (show ¬ (x1 < 0) from h1)) (fun _ => ?_)
  refine lv_iload_n hx hb dJ3_checkIndex_8e157_4 rfl (lv_at hl 0 rfl) ?_
  refine lv_iload_n hx hb dJ3_checkIndex_8e157_5 rfl (lv_at hl 1 rfl) ?_
  refine lv_icmp_lt (tgt := 16) hx hb dJ3_checkIndex_8e157_6 (by decide) (fun _ => ?_) (fun c => absurd (show x1 < x2 from h2) c)
  refine lv_iload_n hx hb dJ3_checkIndex_8e157_16 rfl (lv_at hl 0 rfl) ?_
  rw [hQ]
  exact W.iret (v := x1) hx hb hr (fun t ht hW => ⟨x1, rfl, trivial, ht⟩) (fun q h => by cases h) dJ3_checkIndex_8e157_17

set_option maxHeartbeats 4000000 in
set_option maxRecDepth 100000 in
theorem c_J0_checkIndex_df160 (l : Launch) (D : va_G) (E : Nat → ClassId) (G : Nat → Nat) (x1 : Int32) (x2 : Int32) (h1 : ¬ x1 < 0) (h2 : x1 < x2) : Met l yJ0_checkIndex_df160 (oh_w yJ0_checkIndex_df160 cJ0_checkIndex_df160 2 none) ({ frames := 1, cells := 0, slots := 0, locals := 22 }) (oh_Pp D E G [.int x1, .int x2] []) oh_Sv 0 0 (fun _ => False) := by
  refine Met.ofW (cc := cJ0_checkIndex_df160) (maxL := 2) (ret := none) (by decide) rfl ?_
  intro p e s m args below meth c s₁ B hml hv
  obtain ⟨rfl, hP, hK, hG⟩ := hv
  have hx := B.exec
  have hb := B.bytes
  have hr := B.returns
  have hts := atoms_spec (ws := (oh_w yJ0_checkIndex_df160 cJ0_checkIndex_df160 2 none)) B.pre
  have htg : ∀ w ∈ oh_t, w.before _ s = true := fun w h => hts w (List.mem_cons_of_mem _ h)
  have hown : s.vm.findClass RJ0 = some m.cls := findClass_of_methodNamed B.named
  have hlocks := B.notSynchronized
  have hS : va_S (fun _ => False) s.heap s.heap [] := va_S.rf
  have hl := lv_entry ([.int x1, .int x2]) (n := 2) (Nat.le_of_ble_eq_true rfl)
  rw [lg_entry_eq]
  generalize (lg_sl ([.int x1, .int x2]) ++ List.replicate (2 - (lg_sl ([.int x1, .int x2])).length) Slot.unset).toArray = ls at hl ⊢
  have hl : lv_has ls 2 [(0, .int x1), (1, .int x2)] := hl
  refine oh_genQ (fun Q hQ => ?_)
  refine lv_iload_n hx hb dJ0_checkIndex_df160_0 rfl (lv_at hl 0 rfl) ?_
  refine lv_iload_n hx hb dJ0_checkIndex_df160_1 rfl (lv_at hl 1 rfl) ?_
  rcases hG.2.2.2.2.2.2.2.2.2.1 with hz | ⟨zt, hz⟩
  · refine va_gets hx hb hz hS hown (htg _ q_545) (fun _ h9 => h9) dJ0_checkIndex_df160_2 ?_
    refine tq_S (As := [.int x1, .int x2, .null]) (rest := []) (ws := []) ⟨hx, hb, hml, hown, htg⟩ (c_J3_checkIndex_n l D E G x1 x2 h1 h2) (va_cwS 3 htg (oh_gS q_547 q_548 q_77 q_549) rfl rfl rfl pdJ3_checkIndex_8e157 ⟨Nat.le_of_ble_eq_true rfl, Nat.le_of_ble_eq_true rfl⟩) hK va_nil hG hS rfl hl.1 rfl (Nat.le_of_ble_eq_true rfl) dJ0_checkIndex_df160_5 ⟨Nat.le_of_ble_eq_true rfl, Nat.le_of_ble_eq_true rfl⟩ (fun r_1 hq_2 => ?_)
    refine lv_pop hx hb dJ0_checkIndex_df160_8 rfl ?_
    rw [hQ]
    exact W.vret hx hb hr (fun t ht hW => ⟨rfl, ht⟩) (fun q h => by cases h) dJ0_checkIndex_df160_9
  · refine va_gets hx hb hz hS hown (htg _ q_545) (fun _ h9 => h9) dJ0_checkIndex_df160_2 ?_
    refine tq_S (As := [.int x1, .int x2, .ref zt]) (rest := []) (ws := []) ⟨hx, hb, hml, hown, htg⟩ (c_J3_checkIndex_r l D E G x1 x2 zt h1 h2) (va_cwS 3 htg (oh_gS q_547 q_548 q_77 q_549) rfl rfl rfl pdJ3_checkIndex_8e157 ⟨Nat.le_of_ble_eq_true rfl, Nat.le_of_ble_eq_true rfl⟩) hK va_nil hG hS rfl hl.1 rfl (Nat.le_of_ble_eq_true rfl) dJ0_checkIndex_df160_5 ⟨Nat.le_of_ble_eq_true rfl, Nat.le_of_ble_eq_true rfl⟩ (fun r_3 hq_4 => ?_)
    refine lv_pop hx hb dJ0_checkIndex_df160_8 rfl ?_
    rw [hQ]
    exact W.vret hx hb hr (fun t ht hW => ⟨rfl, ht⟩) (fun q h => by cases h) dJ0_checkIndex_df160_9

set_option maxHeartbeats 4000000 in
set_option maxRecDepth 100000 in
theorem c_J1_charAt_3b067 (l : Launch) (D : va_G) (E : Nat → ClassId) (G : Nat → Nat) (j : Nat) (x1 : Int32) (hj : j < 34) (h1 : ¬ x1 < 0) (h2 : x1 < Int32.ofNat (oh_len j)) : Met l yJ1_charAt_3b067 (oh_w yJ1_charAt_3b067 cJ1_charAt_3b067 2 (some .char)) ({ frames := 2, cells := 0, slots := 0, locals := 43 }) (oh_Pp D E G [.ref (G (40 + j)), .int x1] []) (vp_Si (fun r => r = oh_byt j (x1).toNatClampNeg)) 0 0 (fun _ => False) := by
  refine Met.ofW (cc := cJ1_charAt_3b067) (maxL := 2) (ret := (some .char)) (by decide) rfl ?_
  intro p e s m args below meth c s₁ B hml hv
  obtain ⟨rfl, hP, hK, hG⟩ := hv
  have hx := B.exec
  have hb := B.bytes
  have hr := B.returns
  have hts := atoms_spec (ws := (oh_w yJ1_charAt_3b067 cJ1_charAt_3b067 2 (some .char))) B.pre
  have htg : ∀ w ∈ oh_t, w.before _ s = true := fun w h => hts w (List.mem_cons_of_mem _ h)
  have hown : s.vm.findClass RJ1 = some m.cls := findClass_of_methodNamed B.named
  have hlocks := B.notSynchronized
  have hS : va_S (fun _ => False) s.heap s.heap [] := va_S.rf
  have hl := lv_entry ([.ref (G (40 + j)), .int x1]) (n := 2) (Nat.le_of_ble_eq_true rfl)
  rw [lg_entry_eq]
  generalize (lg_sl ([.ref (G (40 + j)), .int x1]) ++ List.replicate (2 - (lg_sl ([.ref (G (40 + j)), .int x1])).length) Slot.unset).toArray = ls at hl ⊢
  have hl : lv_has ls 2 [(0, .ref (G (40 + j))), (1, .int x1)] := hl
  refine oh_genQ (fun Q hQ => ?_)
  refine lv_iload_n hx hb dJ1_charAt_3b067_0 rfl (lv_at hl 1 rfl) ?_
  refine lv_aload_n hx hb dJ1_charAt_3b067_1 rfl (lv_at hl 0 rfl) ?_
  refine va_tlen (v := Int32.ofNat (oh_len j)) hx hb (hG.2.2.2.2.2.2.2.2.2.2 j hj).2.2.2 hS rfl dJ1_charAt_3b067_2 ?_
  refine tq_Sv (As := [.int x1, .int (Int32.ofNat (oh_len j))]) (rest := []) (ws := []) ⟨hx, hb, hml, hown, htg⟩ (c_J0_checkIndex_df160 l D E G x1 (Int32.ofNat (oh_len j)) h1 h2) (va_cwS 2 htg (oh_gS q_542 q_543 q_75 q_544) rfl rfl rfl pdJ0_checkIndex_df160 ⟨Nat.le_of_ble_eq_true rfl, Nat.le_of_ble_eq_true rfl⟩) hK va_nil hG hS rfl hl.1 rfl (Nat.le_of_ble_eq_true rfl) dJ1_charAt_3b067_3 ⟨Nat.le_of_ble_eq_true rfl, Nat.le_of_ble_eq_true rfl⟩ ?_
  refine lv_aload_n hx hb dJ1_charAt_3b067_6 rfl (lv_at hl 0 rfl) ?_
  refine lv_iload_n hx hb dJ1_charAt_3b067_7 rfl (lv_at hl 1 rfl) ?_
  refine va_tb (v := .int (oh_byt j (x1).toNatClampNeg)) hx hb (hG.2.2.2.2.2.2.2.2.2.2 j hj).2.2.2 hS (oh_chin hj h1 h2) rfl dJ1_charAt_3b067_8 ?_
  refine lv_sipush (v := 255) hx hb dJ1_charAt_3b067_9 (by decide) ?_
  refine lv_iand hx hb dJ1_charAt_3b067_12 ?_
  refine lv_i2c (v := (((oh_byt j (x1).toNatClampNeg) &&& 255).toUInt32 % 65536).toInt32) hx hb dJ1_charAt_3b067_13 rfl ?_
  rw [hQ]
  exact W.zret (v := (((oh_byt j (x1).toNatClampNeg) &&& 255).toUInt32 % 65536).toInt32) (ty := .char) hx hb hr (oh_chr hj h1 h2).2 (fun t ht hW => ⟨(((oh_byt j (x1).toNatClampNeg) &&& 255).toUInt32 % 65536).toInt32, rfl, (oh_chr hj h1 h2).1, ht⟩) (fun q h => by cases h) dJ1_charAt_3b067_14

set_option maxHeartbeats 4000000 in
set_option maxRecDepth 100000 in
theorem c_J0_charAt_5068e (l : Launch) (D : va_G) (E : Nat → ClassId) (G : Nat → Nat) (j : Nat) (x1 : Int32) (hj : j < 34) (h1 : ¬ x1 < 0) (h2 : x1 < Int32.ofNat (oh_len j)) : Met l yJ0_charAt_5068e (oh_w yJ0_charAt_5068e cJ0_charAt_5068e 2 (some .char)) ({ frames := 3, cells := 0, slots := 0, locals := 64 }) (oh_Pp D E G [.ref (G (3 + j)), .int x1] []) (vp_Si (fun r => r = oh_byt j (x1).toNatClampNeg)) 0 0 (fun _ => False) := by
  refine Met.ofW (cc := cJ0_charAt_5068e) (maxL := 2) (ret := (some .char)) (by decide) rfl ?_
  intro p e s m args below meth c s₁ B hml hv
  obtain ⟨rfl, hP, hK, hG⟩ := hv
  have hx := B.exec
  have hb := B.bytes
  have hr := B.returns
  have hts := atoms_spec (ws := (oh_w yJ0_charAt_5068e cJ0_charAt_5068e 2 (some .char))) B.pre
  have htg : ∀ w ∈ oh_t, w.before _ s = true := fun w h => hts w (List.mem_cons_of_mem _ h)
  have hown : s.vm.findClass RJ0 = some m.cls := findClass_of_methodNamed B.named
  have hlocks := B.notSynchronized
  have hS : va_S (fun _ => False) s.heap s.heap [] := va_S.rf
  have hl := lv_entry ([.ref (G (3 + j)), .int x1]) (n := 2) (Nat.le_of_ble_eq_true rfl)
  rw [lg_entry_eq]
  generalize (lg_sl ([.ref (G (3 + j)), .int x1]) ++ List.replicate (2 - (lg_sl ([.ref (G (3 + j)), .int x1])).length) Slot.unset).toArray = ls at hl ⊢
  have hl : lv_has ls 2 [(0, .ref (G (3 + j))), (1, .int x1)] := hl
  refine oh_genQ (fun Q hQ => ?_)
  refine lv_aload_n hx hb dJ0_charAt_5068e_0 rfl (lv_at hl 0 rfl) ?_
  refine tq_V (As := []) (rest := []) (ws := []) ⟨hx, hb, hml, hown, htg⟩ (c_J0_isLatin1_aae02 l D E G j hj) (cwV 0 htg (oh_gV q_535 q_536 q_537 q_75 q_538) rfl rfl rfl pdVJ0_isLatin1_aae02 ⟨Nat.le_of_ble_eq_true rfl, Nat.le_of_ble_eq_true rfl⟩) hK va_nil hG hS (oh_srec hG hS hj) rfl hl.1 rfl (Nat.le_of_ble_eq_true rfl) dJ0_charAt_5068e_1 ⟨Nat.le_of_ble_eq_true rfl, Nat.le_of_ble_eq_true rfl⟩ (fun r_1 hq_2 => ?_)
  subst hq_2
  refine lv_if_eq (tgt := 16) hx hb dJ0_charAt_5068e_4 (by decide) (fun c => absurd c (show ¬ ((1 : Int32) = 0) from by decide)) (fun _ => ?_)
  refine lv_aload_n hx hb dJ0_charAt_5068e_7 rfl (lv_at hl 0 rfl) ?_
  refine vk_getf (v := .ref (G (40 + j))) hx hb (hG.2.2.2.2.2.2.2.2.2.2 j hj).2.2.1 hS hown (htg _ q_1447) (fun _ h9 => h9) dJ0_charAt_5068e_8 ?_
  refine lv_iload_n hx hb dJ0_charAt_5068e_11 rfl (lv_at hl 1 rfl) ?_
  refine tq_S (As := [.ref (G (40 + j)), .int x1]) (rest := []) (ws := []) ⟨hx, hb, hml, hown, htg⟩ (c_J1_charAt_3b067 l D E G j x1 hj h1 h2) (va_cwS 2 htg (oh_gS q_539 q_540 q_76 q_541) rfl rfl rfl pdJ1_charAt_3b067 ⟨Nat.le_of_ble_eq_true rfl, Nat.le_of_ble_eq_true rfl⟩) hK va_nil hG hS rfl hl.1 rfl (Nat.le_of_ble_eq_true rfl) dJ0_charAt_5068e_12 ⟨Nat.le_of_ble_eq_true rfl, Nat.le_of_ble_eq_true rfl⟩ (fun r_3 hq_4 => ?_)
  subst hq_4
  rw [hQ]
  exact W.zret (v := oh_byt j (x1).toNatClampNeg) (ty := .char) hx hb hr (by rw [← (oh_chr hj h1 h2).1]; exact (oh_chr hj h1 h2).2) (fun t ht hW => ⟨oh_byt j (x1).toNatClampNeg, rfl, rfl, ht⟩) (fun q h => by cases h) dJ0_charAt_5068e_15
theorem bg_dX4_advance_0 : bysAt cX4_advance 0 [42, 42, 180, 0, 22, 181, 0, 28, 42, 180, 0, 28, 42, 180, 0, 15, 162, 0, 30, 42, 180, 0, 9, 42, 180, 0, 28, 46] := bysAt_of (by decide +kernel)
theorem dX4_advance_0 : decode cX4_advance 0 = .ok (.aload_n 0, 1) := o_42 (bg_dX4_advance_0 0 42 rfl)
theorem dX4_advance_1 : decode cX4_advance 1 = .ok (.aload_n 0, 1) := o_42 (bg_dX4_advance_0 1 42 rfl)
theorem dX4_advance_2 : decode cX4_advance 2 = .ok (.getfield 22, 3) := o_180 (bg_dX4_advance_0 2 180 rfl) (bg_dX4_advance_0 3 0 rfl) (bg_dX4_advance_0 4 22 rfl)
theorem dX4_advance_5 : decode cX4_advance 5 = .ok (.putfield 28, 3) := o_181 (bg_dX4_advance_0 5 181 rfl) (bg_dX4_advance_0 6 0 rfl) (bg_dX4_advance_0 7 28 rfl)
theorem dX4_advance_8 : decode cX4_advance 8 = .ok (.aload_n 0, 1) := o_42 (bg_dX4_advance_0 8 42 rfl)
theorem dX4_advance_9 : decode cX4_advance 9 = .ok (.getfield 28, 3) := o_180 (bg_dX4_advance_0 9 180 rfl) (bg_dX4_advance_0 10 0 rfl) (bg_dX4_advance_0 11 28 rfl)
theorem dX4_advance_12 : decode cX4_advance 12 = .ok (.aload_n 0, 1) := o_42 (bg_dX4_advance_0 12 42 rfl)
theorem dX4_advance_13 : decode cX4_advance 13 = .ok (.getfield 15, 3) := o_180 (bg_dX4_advance_0 13 180 rfl) (bg_dX4_advance_0 14 0 rfl) (bg_dX4_advance_0 15 15 rfl)
theorem dX4_advance_16 : decode cX4_advance 16 = .ok (.if_icmp .ge 30, 3) := o_162 (bg_dX4_advance_0 16 162 rfl) (bg_dX4_advance_0 17 0 rfl) (bg_dX4_advance_0 18 30 rfl) (by decide +kernel)
theorem dX4_advance_19 : decode cX4_advance 19 = .ok (.aload_n 0, 1) := o_42 (bg_dX4_advance_0 19 42 rfl)
theorem dX4_advance_20 : decode cX4_advance 20 = .ok (.getfield 9, 3) := o_180 (bg_dX4_advance_0 20 180 rfl) (bg_dX4_advance_0 21 0 rfl) (bg_dX4_advance_0 22 9 rfl)
theorem dX4_advance_23 : decode cX4_advance 23 = .ok (.aload_n 0, 1) := o_42 (bg_dX4_advance_0 23 42 rfl)
theorem dX4_advance_24 : decode cX4_advance 24 = .ok (.getfield 28, 3) := o_180 (bg_dX4_advance_0 24 180 rfl) (bg_dX4_advance_0 25 0 rfl) (bg_dX4_advance_0 26 28 rfl)
theorem dX4_advance_27 : decode cX4_advance 27 = .ok (.iaload, 1) := o_46 (bg_dX4_advance_0 27 46 rfl)
theorem bg_dX4_advance_28 : bysAt cX4_advance 28 [16, 32, 160, 0, 16, 42, 89, 180, 0, 28, 4, 96, 181, 0, 28, 167, 255, 221, 42, 42, 180, 0, 28, 181, 0, 22, 42] := bysAt_of (by decide +kernel)
theorem dX4_advance_28 : decode cX4_advance 28 = .ok (.bipush 32, 2) := o_16 (bg_dX4_advance_28 0 16 rfl) (bg_dX4_advance_28 1 32 rfl) (by decide +kernel)
theorem dX4_advance_30 : decode cX4_advance 30 = .ok (.if_icmp .ne 16, 3) := o_160 (bg_dX4_advance_28 2 160 rfl) (bg_dX4_advance_28 3 0 rfl) (bg_dX4_advance_28 4 16 rfl) (by decide +kernel)
theorem dX4_advance_33 : decode cX4_advance 33 = .ok (.aload_n 0, 1) := o_42 (bg_dX4_advance_28 5 42 rfl)
theorem dX4_advance_34 : decode cX4_advance 34 = .ok (.dup, 1) := o_89 (bg_dX4_advance_28 6 89 rfl)
theorem dX4_advance_35 : decode cX4_advance 35 = .ok (.getfield 28, 3) := o_180 (bg_dX4_advance_28 7 180 rfl) (bg_dX4_advance_28 8 0 rfl) (bg_dX4_advance_28 9 28 rfl)
theorem dX4_advance_38 : decode cX4_advance 38 = .ok (.iconst 1, 1) := o_4 (bg_dX4_advance_28 10 4 rfl)
theorem dX4_advance_39 : decode cX4_advance 39 = .ok (.iadd, 1) := o_96 (bg_dX4_advance_28 11 96 rfl)
theorem dX4_advance_40 : decode cX4_advance 40 = .ok (.putfield 28, 3) := o_181 (bg_dX4_advance_28 12 181 rfl) (bg_dX4_advance_28 13 0 rfl) (bg_dX4_advance_28 14 28 rfl)
theorem dX4_advance_43 : decode cX4_advance 43 = .ok (.goto (-35), 3) := o_167 (bg_dX4_advance_28 15 167 rfl) (bg_dX4_advance_28 16 255 rfl) (bg_dX4_advance_28 17 221 rfl) (by decide +kernel)
theorem dX4_advance_46 : decode cX4_advance 46 = .ok (.aload_n 0, 1) := o_42 (bg_dX4_advance_28 18 42 rfl)
theorem dX4_advance_47 : decode cX4_advance 47 = .ok (.aload_n 0, 1) := o_42 (bg_dX4_advance_28 19 42 rfl)
theorem dX4_advance_48 : decode cX4_advance 48 = .ok (.getfield 28, 3) := o_180 (bg_dX4_advance_28 20 180 rfl) (bg_dX4_advance_28 21 0 rfl) (bg_dX4_advance_28 22 28 rfl)
theorem dX4_advance_51 : decode cX4_advance 51 = .ok (.putfield 22, 3) := o_181 (bg_dX4_advance_28 23 181 rfl) (bg_dX4_advance_28 24 0 rfl) (bg_dX4_advance_28 25 22 rfl)
theorem dX4_advance_54 : decode cX4_advance 54 = .ok (.aload_n 0, 1) := o_42 (bg_dX4_advance_28 26 42 rfl)
theorem bg_dX4_advance_55 : bysAt cX4_advance 55 [180, 0, 22, 42, 180, 0, 15, 162, 0, 44, 42, 180, 0, 9, 42, 180, 0, 22, 46, 16, 97, 161, 0, 30, 42, 180, 0, 9, 42] := bysAt_of (by decide +kernel)
theorem dX4_advance_55 : decode cX4_advance 55 = .ok (.getfield 22, 3) := o_180 (bg_dX4_advance_55 0 180 rfl) (bg_dX4_advance_55 1 0 rfl) (bg_dX4_advance_55 2 22 rfl)
theorem dX4_advance_58 : decode cX4_advance 58 = .ok (.aload_n 0, 1) := o_42 (bg_dX4_advance_55 3 42 rfl)
theorem dX4_advance_59 : decode cX4_advance 59 = .ok (.getfield 15, 3) := o_180 (bg_dX4_advance_55 4 180 rfl) (bg_dX4_advance_55 5 0 rfl) (bg_dX4_advance_55 6 15 rfl)
theorem dX4_advance_62 : decode cX4_advance 62 = .ok (.if_icmp .ge 44, 3) := o_162 (bg_dX4_advance_55 7 162 rfl) (bg_dX4_advance_55 8 0 rfl) (bg_dX4_advance_55 9 44 rfl) (by decide +kernel)
theorem dX4_advance_65 : decode cX4_advance 65 = .ok (.aload_n 0, 1) := o_42 (bg_dX4_advance_55 10 42 rfl)
theorem dX4_advance_66 : decode cX4_advance 66 = .ok (.getfield 9, 3) := o_180 (bg_dX4_advance_55 11 180 rfl) (bg_dX4_advance_55 12 0 rfl) (bg_dX4_advance_55 13 9 rfl)
theorem dX4_advance_69 : decode cX4_advance 69 = .ok (.aload_n 0, 1) := o_42 (bg_dX4_advance_55 14 42 rfl)
theorem dX4_advance_70 : decode cX4_advance 70 = .ok (.getfield 22, 3) := o_180 (bg_dX4_advance_55 15 180 rfl) (bg_dX4_advance_55 16 0 rfl) (bg_dX4_advance_55 17 22 rfl)
theorem dX4_advance_73 : decode cX4_advance 73 = .ok (.iaload, 1) := o_46 (bg_dX4_advance_55 18 46 rfl)
theorem dX4_advance_74 : decode cX4_advance 74 = .ok (.bipush 97, 2) := o_16 (bg_dX4_advance_55 19 16 rfl) (bg_dX4_advance_55 20 97 rfl) (by decide +kernel)
theorem dX4_advance_76 : decode cX4_advance 76 = .ok (.if_icmp .lt 30, 3) := o_161 (bg_dX4_advance_55 21 161 rfl) (bg_dX4_advance_55 22 0 rfl) (bg_dX4_advance_55 23 30 rfl) (by decide +kernel)
theorem dX4_advance_79 : decode cX4_advance 79 = .ok (.aload_n 0, 1) := o_42 (bg_dX4_advance_55 24 42 rfl)
theorem dX4_advance_80 : decode cX4_advance 80 = .ok (.getfield 9, 3) := o_180 (bg_dX4_advance_55 25 180 rfl) (bg_dX4_advance_55 26 0 rfl) (bg_dX4_advance_55 27 9 rfl)
theorem dX4_advance_83 : decode cX4_advance 83 = .ok (.aload_n 0, 1) := o_42 (bg_dX4_advance_55 28 42 rfl)
theorem bg_dX4_advance_84 : bysAt cX4_advance 84 [180, 0, 22, 46, 16, 122, 163, 0, 16, 42, 89, 180, 0, 22, 4, 96, 181, 0, 22, 167, 255, 207, 42, 180, 0, 22, 42] := bysAt_of (by decide +kernel)
theorem dX4_advance_84 : decode cX4_advance 84 = .ok (.getfield 22, 3) := o_180 (bg_dX4_advance_84 0 180 rfl) (bg_dX4_advance_84 1 0 rfl) (bg_dX4_advance_84 2 22 rfl)
theorem dX4_advance_87 : decode cX4_advance 87 = .ok (.iaload, 1) := o_46 (bg_dX4_advance_84 3 46 rfl)
theorem dX4_advance_88 : decode cX4_advance 88 = .ok (.bipush 122, 2) := o_16 (bg_dX4_advance_84 4 16 rfl) (bg_dX4_advance_84 5 122 rfl) (by decide +kernel)
theorem dX4_advance_90 : decode cX4_advance 90 = .ok (.if_icmp .gt 16, 3) := o_163 (bg_dX4_advance_84 6 163 rfl) (bg_dX4_advance_84 7 0 rfl) (bg_dX4_advance_84 8 16 rfl) (by decide +kernel)
theorem dX4_advance_93 : decode cX4_advance 93 = .ok (.aload_n 0, 1) := o_42 (bg_dX4_advance_84 9 42 rfl)
theorem dX4_advance_94 : decode cX4_advance 94 = .ok (.dup, 1) := o_89 (bg_dX4_advance_84 10 89 rfl)
theorem dX4_advance_95 : decode cX4_advance 95 = .ok (.getfield 22, 3) := o_180 (bg_dX4_advance_84 11 180 rfl) (bg_dX4_advance_84 12 0 rfl) (bg_dX4_advance_84 13 22 rfl)
theorem dX4_advance_98 : decode cX4_advance 98 = .ok (.iconst 1, 1) := o_4 (bg_dX4_advance_84 14 4 rfl)
theorem dX4_advance_99 : decode cX4_advance 99 = .ok (.iadd, 1) := o_96 (bg_dX4_advance_84 15 96 rfl)
theorem dX4_advance_100 : decode cX4_advance 100 = .ok (.putfield 22, 3) := o_181 (bg_dX4_advance_84 16 181 rfl) (bg_dX4_advance_84 17 0 rfl) (bg_dX4_advance_84 18 22 rfl)
theorem dX4_advance_103 : decode cX4_advance 103 = .ok (.goto (-49), 3) := o_167 (bg_dX4_advance_84 19 167 rfl) (bg_dX4_advance_84 20 255 rfl) (bg_dX4_advance_84 21 207 rfl) (by decide +kernel)
theorem dX4_advance_106 : decode cX4_advance 106 = .ok (.aload_n 0, 1) := o_42 (bg_dX4_advance_84 22 42 rfl)
theorem dX4_advance_107 : decode cX4_advance 107 = .ok (.getfield 22, 3) := o_180 (bg_dX4_advance_84 23 180 rfl) (bg_dX4_advance_84 24 0 rfl) (bg_dX4_advance_84 25 22 rfl)
theorem dX4_advance_110 : decode cX4_advance 110 = .ok (.aload_n 0, 1) := o_42 (bg_dX4_advance_84 26 42 rfl)
theorem bg_dX4_advance_111 : bysAt cX4_advance 111 [180, 0, 28, 164, 0, 9, 42, 4, 181, 0, 31, 177, 42, 180, 0, 22, 42, 180, 0, 15, 162, 0, 44, 42, 180, 0, 9, 42] := bysAt_of (by decide +kernel)
theorem dX4_advance_111 : decode cX4_advance 111 = .ok (.getfield 28, 3) := o_180 (bg_dX4_advance_111 0 180 rfl) (bg_dX4_advance_111 1 0 rfl) (bg_dX4_advance_111 2 28 rfl)
theorem dX4_advance_114 : decode cX4_advance 114 = .ok (.if_icmp .le 9, 3) := o_164 (bg_dX4_advance_111 3 164 rfl) (bg_dX4_advance_111 4 0 rfl) (bg_dX4_advance_111 5 9 rfl) (by decide +kernel)
theorem dX4_advance_117 : decode cX4_advance 117 = .ok (.aload_n 0, 1) := o_42 (bg_dX4_advance_111 6 42 rfl)
theorem dX4_advance_118 : decode cX4_advance 118 = .ok (.iconst 1, 1) := o_4 (bg_dX4_advance_111 7 4 rfl)
theorem dX4_advance_119 : decode cX4_advance 119 = .ok (.putfield 31, 3) := o_181 (bg_dX4_advance_111 8 181 rfl) (bg_dX4_advance_111 9 0 rfl) (bg_dX4_advance_111 10 31 rfl)
theorem dX4_advance_122 : decode cX4_advance 122 = .ok (.return_, 1) := o_177 (bg_dX4_advance_111 11 177 rfl)
theorem dX4_advance_123 : decode cX4_advance 123 = .ok (.aload_n 0, 1) := o_42 (bg_dX4_advance_111 12 42 rfl)
theorem dX4_advance_124 : decode cX4_advance 124 = .ok (.getfield 22, 3) := o_180 (bg_dX4_advance_111 13 180 rfl) (bg_dX4_advance_111 14 0 rfl) (bg_dX4_advance_111 15 22 rfl)
theorem dX4_advance_127 : decode cX4_advance 127 = .ok (.aload_n 0, 1) := o_42 (bg_dX4_advance_111 16 42 rfl)
theorem dX4_advance_128 : decode cX4_advance 128 = .ok (.getfield 15, 3) := o_180 (bg_dX4_advance_111 17 180 rfl) (bg_dX4_advance_111 18 0 rfl) (bg_dX4_advance_111 19 15 rfl)
theorem dX4_advance_131 : decode cX4_advance 131 = .ok (.if_icmp .ge 44, 3) := o_162 (bg_dX4_advance_111 20 162 rfl) (bg_dX4_advance_111 21 0 rfl) (bg_dX4_advance_111 22 44 rfl) (by decide +kernel)
theorem dX4_advance_134 : decode cX4_advance 134 = .ok (.aload_n 0, 1) := o_42 (bg_dX4_advance_111 23 42 rfl)
theorem dX4_advance_135 : decode cX4_advance 135 = .ok (.getfield 9, 3) := o_180 (bg_dX4_advance_111 24 180 rfl) (bg_dX4_advance_111 25 0 rfl) (bg_dX4_advance_111 26 9 rfl)
theorem dX4_advance_138 : decode cX4_advance 138 = .ok (.aload_n 0, 1) := o_42 (bg_dX4_advance_111 27 42 rfl)
theorem bg_dX4_advance_139 : bysAt cX4_advance 139 [180, 0, 22, 46, 16, 48, 161, 0, 30, 42, 180, 0, 9, 42, 180, 0, 22, 46, 16, 57, 163, 0, 16, 42, 89, 180, 0, 22] := bysAt_of (by decide +kernel)
theorem dX4_advance_139 : decode cX4_advance 139 = .ok (.getfield 22, 3) := o_180 (bg_dX4_advance_139 0 180 rfl) (bg_dX4_advance_139 1 0 rfl) (bg_dX4_advance_139 2 22 rfl)
theorem dX4_advance_142 : decode cX4_advance 142 = .ok (.iaload, 1) := o_46 (bg_dX4_advance_139 3 46 rfl)
theorem dX4_advance_143 : decode cX4_advance 143 = .ok (.bipush 48, 2) := o_16 (bg_dX4_advance_139 4 16 rfl) (bg_dX4_advance_139 5 48 rfl) (by decide +kernel)
theorem dX4_advance_145 : decode cX4_advance 145 = .ok (.if_icmp .lt 30, 3) := o_161 (bg_dX4_advance_139 6 161 rfl) (bg_dX4_advance_139 7 0 rfl) (bg_dX4_advance_139 8 30 rfl) (by decide +kernel)
theorem dX4_advance_148 : decode cX4_advance 148 = .ok (.aload_n 0, 1) := o_42 (bg_dX4_advance_139 9 42 rfl)
theorem dX4_advance_149 : decode cX4_advance 149 = .ok (.getfield 9, 3) := o_180 (bg_dX4_advance_139 10 180 rfl) (bg_dX4_advance_139 11 0 rfl) (bg_dX4_advance_139 12 9 rfl)
theorem dX4_advance_152 : decode cX4_advance 152 = .ok (.aload_n 0, 1) := o_42 (bg_dX4_advance_139 13 42 rfl)
theorem dX4_advance_153 : decode cX4_advance 153 = .ok (.getfield 22, 3) := o_180 (bg_dX4_advance_139 14 180 rfl) (bg_dX4_advance_139 15 0 rfl) (bg_dX4_advance_139 16 22 rfl)
theorem dX4_advance_156 : decode cX4_advance 156 = .ok (.iaload, 1) := o_46 (bg_dX4_advance_139 17 46 rfl)
theorem dX4_advance_157 : decode cX4_advance 157 = .ok (.bipush 57, 2) := o_16 (bg_dX4_advance_139 18 16 rfl) (bg_dX4_advance_139 19 57 rfl) (by decide +kernel)
theorem dX4_advance_159 : decode cX4_advance 159 = .ok (.if_icmp .gt 16, 3) := o_163 (bg_dX4_advance_139 20 163 rfl) (bg_dX4_advance_139 21 0 rfl) (bg_dX4_advance_139 22 16 rfl) (by decide +kernel)
theorem dX4_advance_162 : decode cX4_advance 162 = .ok (.aload_n 0, 1) := o_42 (bg_dX4_advance_139 23 42 rfl)
theorem dX4_advance_163 : decode cX4_advance 163 = .ok (.dup, 1) := o_89 (bg_dX4_advance_139 24 89 rfl)
theorem dX4_advance_164 : decode cX4_advance 164 = .ok (.getfield 22, 3) := o_180 (bg_dX4_advance_139 25 180 rfl) (bg_dX4_advance_139 26 0 rfl) (bg_dX4_advance_139 27 22 rfl)
theorem bg_dX4_advance_167 : bysAt cX4_advance 167 [4, 96, 181, 0, 22, 167, 255, 207, 42, 180, 0, 22, 42, 180, 0, 28, 164, 0, 9, 42, 5, 181, 0, 31, 177, 42] := bysAt_of (by decide +kernel)
theorem dX4_advance_167 : decode cX4_advance 167 = .ok (.iconst 1, 1) := o_4 (bg_dX4_advance_167 0 4 rfl)
theorem dX4_advance_168 : decode cX4_advance 168 = .ok (.iadd, 1) := o_96 (bg_dX4_advance_167 1 96 rfl)
theorem dX4_advance_169 : decode cX4_advance 169 = .ok (.putfield 22, 3) := o_181 (bg_dX4_advance_167 2 181 rfl) (bg_dX4_advance_167 3 0 rfl) (bg_dX4_advance_167 4 22 rfl)
theorem dX4_advance_172 : decode cX4_advance 172 = .ok (.goto (-49), 3) := o_167 (bg_dX4_advance_167 5 167 rfl) (bg_dX4_advance_167 6 255 rfl) (bg_dX4_advance_167 7 207 rfl) (by decide +kernel)
theorem dX4_advance_175 : decode cX4_advance 175 = .ok (.aload_n 0, 1) := o_42 (bg_dX4_advance_167 8 42 rfl)
theorem dX4_advance_176 : decode cX4_advance 176 = .ok (.getfield 22, 3) := o_180 (bg_dX4_advance_167 9 180 rfl) (bg_dX4_advance_167 10 0 rfl) (bg_dX4_advance_167 11 22 rfl)
theorem dX4_advance_179 : decode cX4_advance 179 = .ok (.aload_n 0, 1) := o_42 (bg_dX4_advance_167 12 42 rfl)
theorem dX4_advance_180 : decode cX4_advance 180 = .ok (.getfield 28, 3) := o_180 (bg_dX4_advance_167 13 180 rfl) (bg_dX4_advance_167 14 0 rfl) (bg_dX4_advance_167 15 28 rfl)
theorem dX4_advance_183 : decode cX4_advance 183 = .ok (.if_icmp .le 9, 3) := o_164 (bg_dX4_advance_167 16 164 rfl) (bg_dX4_advance_167 17 0 rfl) (bg_dX4_advance_167 18 9 rfl) (by decide +kernel)
theorem dX4_advance_186 : decode cX4_advance 186 = .ok (.aload_n 0, 1) := o_42 (bg_dX4_advance_167 19 42 rfl)
theorem dX4_advance_187 : decode cX4_advance 187 = .ok (.iconst 2, 1) := o_5 (bg_dX4_advance_167 20 5 rfl)
theorem dX4_advance_188 : decode cX4_advance 188 = .ok (.putfield 31, 3) := o_181 (bg_dX4_advance_167 21 181 rfl) (bg_dX4_advance_167 22 0 rfl) (bg_dX4_advance_167 23 31 rfl)
theorem dX4_advance_191 : decode cX4_advance 191 = .ok (.return_, 1) := o_177 (bg_dX4_advance_167 24 177 rfl)
theorem dX4_advance_192 : decode cX4_advance 192 = .ok (.aload_n 0, 1) := o_42 (bg_dX4_advance_167 25 42 rfl)
theorem bg_dX4_advance_193 : bysAt cX4_advance 193 [180, 0, 28, 42, 180, 0, 15, 161, 0, 9, 42, 3, 181, 0, 31, 177, 42, 42, 180, 0, 9, 42, 180, 0, 28, 46] := bysAt_of (by decide +kernel)
theorem dX4_advance_193 : decode cX4_advance 193 = .ok (.getfield 28, 3) := o_180 (bg_dX4_advance_193 0 180 rfl) (bg_dX4_advance_193 1 0 rfl) (bg_dX4_advance_193 2 28 rfl)
theorem dX4_advance_196 : decode cX4_advance 196 = .ok (.aload_n 0, 1) := o_42 (bg_dX4_advance_193 3 42 rfl)
theorem dX4_advance_197 : decode cX4_advance 197 = .ok (.getfield 15, 3) := o_180 (bg_dX4_advance_193 4 180 rfl) (bg_dX4_advance_193 5 0 rfl) (bg_dX4_advance_193 6 15 rfl)
theorem dX4_advance_200 : decode cX4_advance 200 = .ok (.if_icmp .lt 9, 3) := o_161 (bg_dX4_advance_193 7 161 rfl) (bg_dX4_advance_193 8 0 rfl) (bg_dX4_advance_193 9 9 rfl) (by decide +kernel)
theorem dX4_advance_203 : decode cX4_advance 203 = .ok (.aload_n 0, 1) := o_42 (bg_dX4_advance_193 10 42 rfl)
theorem dX4_advance_204 : decode cX4_advance 204 = .ok (.iconst 0, 1) := o_3 (bg_dX4_advance_193 11 3 rfl)
theorem dX4_advance_205 : decode cX4_advance 205 = .ok (.putfield 31, 3) := o_181 (bg_dX4_advance_193 12 181 rfl) (bg_dX4_advance_193 13 0 rfl) (bg_dX4_advance_193 14 31 rfl)
theorem dX4_advance_208 : decode cX4_advance 208 = .ok (.return_, 1) := o_177 (bg_dX4_advance_193 15 177 rfl)
theorem dX4_advance_209 : decode cX4_advance 209 = .ok (.aload_n 0, 1) := o_42 (bg_dX4_advance_193 16 42 rfl)
theorem dX4_advance_210 : decode cX4_advance 210 = .ok (.aload_n 0, 1) := o_42 (bg_dX4_advance_193 17 42 rfl)
theorem dX4_advance_211 : decode cX4_advance 211 = .ok (.getfield 9, 3) := o_180 (bg_dX4_advance_193 18 180 rfl) (bg_dX4_advance_193 19 0 rfl) (bg_dX4_advance_193 20 9 rfl)
theorem dX4_advance_214 : decode cX4_advance 214 = .ok (.aload_n 0, 1) := o_42 (bg_dX4_advance_193 21 42 rfl)
theorem dX4_advance_215 : decode cX4_advance 215 = .ok (.getfield 28, 3) := o_180 (bg_dX4_advance_193 22 180 rfl) (bg_dX4_advance_193 23 0 rfl) (bg_dX4_advance_193 24 28 rfl)
theorem dX4_advance_218 : decode cX4_advance 218 = .ok (.iaload, 1) := o_46 (bg_dX4_advance_193 25 46 rfl)
theorem bg_dX4_advance_219 : bysAt cX4_advance 219 [16, 59, 160, 0, 7, 6, 167, 0, 4, 7, 181, 0, 31, 42, 42, 180, 0, 28, 4, 96, 181, 0, 22, 177] := bysAt_of (by decide +kernel)
theorem dX4_advance_219 : decode cX4_advance 219 = .ok (.bipush 59, 2) := o_16 (bg_dX4_advance_219 0 16 rfl) (bg_dX4_advance_219 1 59 rfl) (by decide +kernel)
theorem dX4_advance_221 : decode cX4_advance 221 = .ok (.if_icmp .ne 7, 3) := o_160 (bg_dX4_advance_219 2 160 rfl) (bg_dX4_advance_219 3 0 rfl) (bg_dX4_advance_219 4 7 rfl) (by decide +kernel)
theorem dX4_advance_224 : decode cX4_advance 224 = .ok (.iconst 3, 1) := o_6 (bg_dX4_advance_219 5 6 rfl)
theorem dX4_advance_225 : decode cX4_advance 225 = .ok (.goto 4, 3) := o_167 (bg_dX4_advance_219 6 167 rfl) (bg_dX4_advance_219 7 0 rfl) (bg_dX4_advance_219 8 4 rfl) (by decide +kernel)
theorem dX4_advance_228 : decode cX4_advance 228 = .ok (.iconst 4, 1) := o_7 (bg_dX4_advance_219 9 7 rfl)
theorem dX4_advance_229 : decode cX4_advance 229 = .ok (.putfield 31, 3) := o_181 (bg_dX4_advance_219 10 181 rfl) (bg_dX4_advance_219 11 0 rfl) (bg_dX4_advance_219 12 31 rfl)
theorem dX4_advance_232 : decode cX4_advance 232 = .ok (.aload_n 0, 1) := o_42 (bg_dX4_advance_219 13 42 rfl)
theorem dX4_advance_233 : decode cX4_advance 233 = .ok (.aload_n 0, 1) := o_42 (bg_dX4_advance_219 14 42 rfl)
theorem dX4_advance_234 : decode cX4_advance 234 = .ok (.getfield 28, 3) := o_180 (bg_dX4_advance_219 15 180 rfl) (bg_dX4_advance_219 16 0 rfl) (bg_dX4_advance_219 17 28 rfl)
theorem dX4_advance_237 : decode cX4_advance 237 = .ok (.iconst 1, 1) := o_4 (bg_dX4_advance_219 18 4 rfl)
theorem dX4_advance_238 : decode cX4_advance 238 = .ok (.iadd, 1) := o_96 (bg_dX4_advance_219 19 96 rfl)
theorem dX4_advance_239 : decode cX4_advance 239 = .ok (.putfield 22, 3) := o_181 (bg_dX4_advance_219 20 181 rfl) (bg_dX4_advance_219 21 0 rfl) (bg_dX4_advance_219 22 22 rfl)
theorem dX4_advance_242 : decode cX4_advance 242 = .ok (.return_, 1) := o_177 (bg_dX4_advance_219 23 177 rfl)
theorem bg_dX4_append_0 : bysAt cX4_append 0 [28, 4, 100, 62, 29, 155, 0, 38, 42, 180, 0, 9, 42, 180, 0, 15, 27, 16, 8, 29, 104] := bysAt_of (by decide +kernel)
theorem dX4_append_0 : decode cX4_append 0 = .ok (.iload_n 2, 1) := o_28 (bg_dX4_append_0 0 28 rfl)
theorem dX4_append_1 : decode cX4_append 1 = .ok (.iconst 1, 1) := o_4 (bg_dX4_append_0 1 4 rfl)
theorem dX4_append_2 : decode cX4_append 2 = .ok (.isub, 1) := o_100 (bg_dX4_append_0 2 100 rfl)
theorem dX4_append_3 : decode cX4_append 3 = .ok (.istore_n 3, 1) := o_62 (bg_dX4_append_0 3 62 rfl)
theorem dX4_append_4 : decode cX4_append 4 = .ok (.iload_n 3, 1) := o_29 (bg_dX4_append_0 4 29 rfl)
theorem dX4_append_5 : decode cX4_append 5 = .ok (.ifCond .lt 38, 3) := o_155 (bg_dX4_append_0 5 155 rfl) (bg_dX4_append_0 6 0 rfl) (bg_dX4_append_0 7 38 rfl) (by decide +kernel)
theorem dX4_append_8 : decode cX4_append 8 = .ok (.aload_n 0, 1) := o_42 (bg_dX4_append_0 8 42 rfl)
theorem dX4_append_9 : decode cX4_append 9 = .ok (.getfield 9, 3) := o_180 (bg_dX4_append_0 9 180 rfl) (bg_dX4_append_0 10 0 rfl) (bg_dX4_append_0 11 9 rfl)
theorem dX4_append_12 : decode cX4_append 12 = .ok (.aload_n 0, 1) := o_42 (bg_dX4_append_0 12 42 rfl)
theorem dX4_append_13 : decode cX4_append 13 = .ok (.getfield 15, 3) := o_180 (bg_dX4_append_0 13 180 rfl) (bg_dX4_append_0 14 0 rfl) (bg_dX4_append_0 15 15 rfl)
theorem dX4_append_16 : decode cX4_append 16 = .ok (.iload_n 1, 1) := o_27 (bg_dX4_append_0 16 27 rfl)
theorem dX4_append_17 : decode cX4_append 17 = .ok (.bipush 8, 2) := o_16 (bg_dX4_append_0 17 16 rfl) (bg_dX4_append_0 18 8 rfl) (by decide +kernel)
theorem dX4_append_19 : decode cX4_append 19 = .ok (.iload_n 3, 1) := o_29 (bg_dX4_append_0 19 29 rfl)
theorem dX4_append_20 : decode cX4_append 20 = .ok (.imul, 1) := o_104 (bg_dX4_append_0 20 104 rfl)
theorem bg_dX4_append_21 : bysAt cX4_append 21 [122, 17, 0, 255, 126, 79, 42, 89, 180, 0, 15, 4, 96, 181, 0, 15, 132, 3, 255, 167, 255, 220, 177] := bysAt_of (by decide +kernel)
theorem dX4_append_21 : decode cX4_append 21 = .ok (.ishr, 1) := o_122 (bg_dX4_append_21 0 122 rfl)
theorem dX4_append_22 : decode cX4_append 22 = .ok (.sipush 255, 3) := o_17 (bg_dX4_append_21 1 17 rfl) (bg_dX4_append_21 2 0 rfl) (bg_dX4_append_21 3 255 rfl) (by decide +kernel)
theorem dX4_append_25 : decode cX4_append 25 = .ok (.iand, 1) := o_126 (bg_dX4_append_21 4 126 rfl)
theorem dX4_append_26 : decode cX4_append 26 = .ok (.iastore, 1) := o_79 (bg_dX4_append_21 5 79 rfl)
theorem dX4_append_27 : decode cX4_append 27 = .ok (.aload_n 0, 1) := o_42 (bg_dX4_append_21 6 42 rfl)
theorem dX4_append_28 : decode cX4_append 28 = .ok (.dup, 1) := o_89 (bg_dX4_append_21 7 89 rfl)
theorem dX4_append_29 : decode cX4_append 29 = .ok (.getfield 15, 3) := o_180 (bg_dX4_append_21 8 180 rfl) (bg_dX4_append_21 9 0 rfl) (bg_dX4_append_21 10 15 rfl)
theorem dX4_append_32 : decode cX4_append 32 = .ok (.iconst 1, 1) := o_4 (bg_dX4_append_21 11 4 rfl)
theorem dX4_append_33 : decode cX4_append 33 = .ok (.iadd, 1) := o_96 (bg_dX4_append_21 12 96 rfl)
theorem dX4_append_34 : decode cX4_append 34 = .ok (.putfield 15, 3) := o_181 (bg_dX4_append_21 13 181 rfl) (bg_dX4_append_21 14 0 rfl) (bg_dX4_append_21 15 15 rfl)
theorem dX4_append_40 : decode cX4_append 40 = .ok (.goto (-36), 3) := o_167 (bg_dX4_append_21 19 167 rfl) (bg_dX4_append_21 20 255 rfl) (bg_dX4_append_21 21 220 rfl) (by decide +kernel)
theorem dX4_append_43 : decode cX4_append 43 = .ok (.return_, 1) := o_177 (bg_dX4_append_21 22 177 rfl)
theorem bg_dX4_fail_0 : bysAt cX4_fail 0 [42, 180, 0, 19, 2, 160, 0, 11, 42, 42, 180, 0, 28, 181, 0, 19, 177] := bysAt_of (by decide +kernel)
theorem dX4_fail_0 : decode cX4_fail 0 = .ok (.aload_n 0, 1) := o_42 (bg_dX4_fail_0 0 42 rfl)
theorem dX4_fail_1 : decode cX4_fail 1 = .ok (.getfield 19, 3) := o_180 (bg_dX4_fail_0 1 180 rfl) (bg_dX4_fail_0 2 0 rfl) (bg_dX4_fail_0 3 19 rfl)
theorem dX4_fail_4 : decode cX4_fail 4 = .ok (.iconst (-1), 1) := o_2 (bg_dX4_fail_0 4 2 rfl)
theorem dX4_fail_5 : decode cX4_fail 5 = .ok (.if_icmp .ne 11, 3) := o_160 (bg_dX4_fail_0 5 160 rfl) (bg_dX4_fail_0 6 0 rfl) (bg_dX4_fail_0 7 11 rfl) (by decide +kernel)
theorem dX4_fail_8 : decode cX4_fail 8 = .ok (.aload_n 0, 1) := o_42 (bg_dX4_fail_0 8 42 rfl)
theorem dX4_fail_9 : decode cX4_fail 9 = .ok (.aload_n 0, 1) := o_42 (bg_dX4_fail_0 9 42 rfl)
theorem dX4_fail_10 : decode cX4_fail 10 = .ok (.getfield 28, 3) := o_180 (bg_dX4_fail_0 10 180 rfl) (bg_dX4_fail_0 11 0 rfl) (bg_dX4_fail_0 12 28 rfl)
theorem dX4_fail_13 : decode cX4_fail 13 = .ok (.putfield 19, 3) := o_181 (bg_dX4_fail_0 13 181 rfl) (bg_dX4_fail_0 14 0 rfl) (bg_dX4_fail_0 15 19 rfl)
theorem dX4_fail_16 : decode cX4_fail 16 = .ok (.return_, 1) := o_177 (bg_dX4_fail_0 16 177 rfl)
theorem bg_dX4_isEnd_0 : bysAt cX4_isEnd 0 [42, 180, 0, 31, 154, 0, 7, 4, 167, 0, 4, 3, 172] := bysAt_of (by decide +kernel)
theorem dX4_isEnd_0 : decode cX4_isEnd 0 = .ok (.aload_n 0, 1) := o_42 (bg_dX4_isEnd_0 0 42 rfl)
theorem dX4_isEnd_1 : decode cX4_isEnd 1 = .ok (.getfield 31, 3) := o_180 (bg_dX4_isEnd_0 1 180 rfl) (bg_dX4_isEnd_0 2 0 rfl) (bg_dX4_isEnd_0 3 31 rfl)
theorem dX4_isEnd_4 : decode cX4_isEnd 4 = .ok (.ifCond .ne 7, 3) := o_154 (bg_dX4_isEnd_0 4 154 rfl) (bg_dX4_isEnd_0 5 0 rfl) (bg_dX4_isEnd_0 6 7 rfl) (by decide +kernel)
theorem dX4_isEnd_7 : decode cX4_isEnd 7 = .ok (.iconst 1, 1) := o_4 (bg_dX4_isEnd_0 7 4 rfl)
theorem dX4_isEnd_8 : decode cX4_isEnd 8 = .ok (.goto 4, 3) := o_167 (bg_dX4_isEnd_0 8 167 rfl) (bg_dX4_isEnd_0 9 0 rfl) (bg_dX4_isEnd_0 10 4 rfl) (by decide +kernel)
theorem dX4_isEnd_11 : decode cX4_isEnd 11 = .ok (.iconst 0, 1) := o_3 (bg_dX4_isEnd_0 11 3 rfl)
theorem dX4_isEnd_12 : decode cX4_isEnd 12 = .ok (.ireturn, 1) := o_172 (bg_dX4_isEnd_0 12 172 rfl)
theorem bg_dX4_isSound_0 : bysAt cX4_isSound 0 [42, 180, 0, 19, 2, 160, 0, 7, 4, 167, 0, 4, 3, 172] := bysAt_of (by decide +kernel)
theorem dX4_isSound_0 : decode cX4_isSound 0 = .ok (.aload_n 0, 1) := o_42 (bg_dX4_isSound_0 0 42 rfl)
theorem dX4_isSound_1 : decode cX4_isSound 1 = .ok (.getfield 19, 3) := o_180 (bg_dX4_isSound_0 1 180 rfl) (bg_dX4_isSound_0 2 0 rfl) (bg_dX4_isSound_0 3 19 rfl)
theorem dX4_isSound_4 : decode cX4_isSound 4 = .ok (.iconst (-1), 1) := o_2 (bg_dX4_isSound_0 4 2 rfl)
theorem dX4_isSound_5 : decode cX4_isSound 5 = .ok (.if_icmp .ne 7, 3) := o_160 (bg_dX4_isSound_0 5 160 rfl) (bg_dX4_isSound_0 6 0 rfl) (bg_dX4_isSound_0 7 7 rfl) (by decide +kernel)
theorem dX4_isSound_8 : decode cX4_isSound 8 = .ok (.iconst 1, 1) := o_4 (bg_dX4_isSound_0 8 4 rfl)
theorem dX4_isSound_9 : decode cX4_isSound 9 = .ok (.goto 4, 3) := o_167 (bg_dX4_isSound_0 9 167 rfl) (bg_dX4_isSound_0 10 0 rfl) (bg_dX4_isSound_0 11 4 rfl) (by decide +kernel)
theorem dX4_isSound_12 : decode cX4_isSound 12 = .ok (.iconst 0, 1) := o_3 (bg_dX4_isSound_0 12 3 rfl)
theorem dX4_isSound_13 : decode cX4_isSound 13 = .ok (.ireturn, 1) := o_172 (bg_dX4_isSound_0 13 172 rfl)
theorem bg_dX4_isWord_0 : bysAt cX4_isWord 0 [42, 180, 0, 19, 2, 160, 0, 27, 42, 180, 0, 31, 4, 160, 0, 19, 42, 180, 0, 22, 42, 180, 0, 28, 100, 43] := bysAt_of (by decide +kernel)
theorem dX4_isWord_0 : decode cX4_isWord 0 = .ok (.aload_n 0, 1) := o_42 (bg_dX4_isWord_0 0 42 rfl)
theorem dX4_isWord_1 : decode cX4_isWord 1 = .ok (.getfield 19, 3) := o_180 (bg_dX4_isWord_0 1 180 rfl) (bg_dX4_isWord_0 2 0 rfl) (bg_dX4_isWord_0 3 19 rfl)
theorem dX4_isWord_4 : decode cX4_isWord 4 = .ok (.iconst (-1), 1) := o_2 (bg_dX4_isWord_0 4 2 rfl)
theorem dX4_isWord_5 : decode cX4_isWord 5 = .ok (.if_icmp .ne 27, 3) := o_160 (bg_dX4_isWord_0 5 160 rfl) (bg_dX4_isWord_0 6 0 rfl) (bg_dX4_isWord_0 7 27 rfl) (by decide +kernel)
theorem dX4_isWord_8 : decode cX4_isWord 8 = .ok (.aload_n 0, 1) := o_42 (bg_dX4_isWord_0 8 42 rfl)
theorem dX4_isWord_9 : decode cX4_isWord 9 = .ok (.getfield 31, 3) := o_180 (bg_dX4_isWord_0 9 180 rfl) (bg_dX4_isWord_0 10 0 rfl) (bg_dX4_isWord_0 11 31 rfl)
theorem dX4_isWord_12 : decode cX4_isWord 12 = .ok (.iconst 1, 1) := o_4 (bg_dX4_isWord_0 12 4 rfl)
theorem dX4_isWord_13 : decode cX4_isWord 13 = .ok (.if_icmp .ne 19, 3) := o_160 (bg_dX4_isWord_0 13 160 rfl) (bg_dX4_isWord_0 14 0 rfl) (bg_dX4_isWord_0 15 19 rfl) (by decide +kernel)
theorem dX4_isWord_16 : decode cX4_isWord 16 = .ok (.aload_n 0, 1) := o_42 (bg_dX4_isWord_0 16 42 rfl)
theorem dX4_isWord_17 : decode cX4_isWord 17 = .ok (.getfield 22, 3) := o_180 (bg_dX4_isWord_0 17 180 rfl) (bg_dX4_isWord_0 18 0 rfl) (bg_dX4_isWord_0 19 22 rfl)
theorem dX4_isWord_20 : decode cX4_isWord 20 = .ok (.aload_n 0, 1) := o_42 (bg_dX4_isWord_0 20 42 rfl)
theorem dX4_isWord_21 : decode cX4_isWord 21 = .ok (.getfield 28, 3) := o_180 (bg_dX4_isWord_0 21 180 rfl) (bg_dX4_isWord_0 22 0 rfl) (bg_dX4_isWord_0 23 28 rfl)
theorem dX4_isWord_24 : decode cX4_isWord 24 = .ok (.isub, 1) := o_100 (bg_dX4_isWord_0 24 100 rfl)
theorem dX4_isWord_25 : decode cX4_isWord 25 = .ok (.aload_n 1, 1) := o_43 (bg_dX4_isWord_0 25 43 rfl)
theorem bg_dX4_isWord_26 : bysAt cX4_isWord 26 [182, 0, 34, 159, 0, 5, 3, 172, 3, 61, 28, 43, 182, 0, 34, 162, 0, 30, 42, 180, 0, 9, 42, 180, 0, 28] := bysAt_of (by decide +kernel)
theorem dX4_isWord_26 : decode cX4_isWord 26 = .ok (.invokevirtual 34, 3) := o_182 (bg_dX4_isWord_26 0 182 rfl) (bg_dX4_isWord_26 1 0 rfl) (bg_dX4_isWord_26 2 34 rfl)
theorem dX4_isWord_29 : decode cX4_isWord 29 = .ok (.if_icmp .eq 5, 3) := o_159 (bg_dX4_isWord_26 3 159 rfl) (bg_dX4_isWord_26 4 0 rfl) (bg_dX4_isWord_26 5 5 rfl) (by decide +kernel)
theorem dX4_isWord_32 : decode cX4_isWord 32 = .ok (.iconst 0, 1) := o_3 (bg_dX4_isWord_26 6 3 rfl)
theorem dX4_isWord_33 : decode cX4_isWord 33 = .ok (.ireturn, 1) := o_172 (bg_dX4_isWord_26 7 172 rfl)
theorem dX4_isWord_34 : decode cX4_isWord 34 = .ok (.iconst 0, 1) := o_3 (bg_dX4_isWord_26 8 3 rfl)
theorem dX4_isWord_35 : decode cX4_isWord 35 = .ok (.istore_n 2, 1) := o_61 (bg_dX4_isWord_26 9 61 rfl)
theorem dX4_isWord_36 : decode cX4_isWord 36 = .ok (.iload_n 2, 1) := o_28 (bg_dX4_isWord_26 10 28 rfl)
theorem dX4_isWord_37 : decode cX4_isWord 37 = .ok (.aload_n 1, 1) := o_43 (bg_dX4_isWord_26 11 43 rfl)
theorem dX4_isWord_38 : decode cX4_isWord 38 = .ok (.invokevirtual 34, 3) := o_182 (bg_dX4_isWord_26 12 182 rfl) (bg_dX4_isWord_26 13 0 rfl) (bg_dX4_isWord_26 14 34 rfl)
theorem dX4_isWord_41 : decode cX4_isWord 41 = .ok (.if_icmp .ge 30, 3) := o_162 (bg_dX4_isWord_26 15 162 rfl) (bg_dX4_isWord_26 16 0 rfl) (bg_dX4_isWord_26 17 30 rfl) (by decide +kernel)
theorem dX4_isWord_44 : decode cX4_isWord 44 = .ok (.aload_n 0, 1) := o_42 (bg_dX4_isWord_26 18 42 rfl)
theorem dX4_isWord_45 : decode cX4_isWord 45 = .ok (.getfield 9, 3) := o_180 (bg_dX4_isWord_26 19 180 rfl) (bg_dX4_isWord_26 20 0 rfl) (bg_dX4_isWord_26 21 9 rfl)
theorem dX4_isWord_48 : decode cX4_isWord 48 = .ok (.aload_n 0, 1) := o_42 (bg_dX4_isWord_26 22 42 rfl)
theorem dX4_isWord_49 : decode cX4_isWord 49 = .ok (.getfield 28, 3) := o_180 (bg_dX4_isWord_26 23 180 rfl) (bg_dX4_isWord_26 24 0 rfl) (bg_dX4_isWord_26 25 28 rfl)
theorem bg_dX4_isWord_52 : bysAt cX4_isWord 52 [28, 96, 46, 43, 28, 182, 0, 40, 159, 0, 5, 3, 172, 132, 2, 1, 167, 255, 224, 4, 172] := bysAt_of (by decide +kernel)
theorem dX4_isWord_52 : decode cX4_isWord 52 = .ok (.iload_n 2, 1) := o_28 (bg_dX4_isWord_52 0 28 rfl)
theorem dX4_isWord_53 : decode cX4_isWord 53 = .ok (.iadd, 1) := o_96 (bg_dX4_isWord_52 1 96 rfl)
theorem dX4_isWord_54 : decode cX4_isWord 54 = .ok (.iaload, 1) := o_46 (bg_dX4_isWord_52 2 46 rfl)
theorem dX4_isWord_55 : decode cX4_isWord 55 = .ok (.aload_n 1, 1) := o_43 (bg_dX4_isWord_52 3 43 rfl)
theorem dX4_isWord_56 : decode cX4_isWord 56 = .ok (.iload_n 2, 1) := o_28 (bg_dX4_isWord_52 4 28 rfl)
theorem dX4_isWord_57 : decode cX4_isWord 57 = .ok (.invokevirtual 40, 3) := o_182 (bg_dX4_isWord_52 5 182 rfl) (bg_dX4_isWord_52 6 0 rfl) (bg_dX4_isWord_52 7 40 rfl)
theorem dX4_isWord_60 : decode cX4_isWord 60 = .ok (.if_icmp .eq 5, 3) := o_159 (bg_dX4_isWord_52 8 159 rfl) (bg_dX4_isWord_52 9 0 rfl) (bg_dX4_isWord_52 10 5 rfl) (by decide +kernel)
theorem dX4_isWord_63 : decode cX4_isWord 63 = .ok (.iconst 0, 1) := o_3 (bg_dX4_isWord_52 11 3 rfl)
theorem dX4_isWord_64 : decode cX4_isWord 64 = .ok (.ireturn, 1) := o_172 (bg_dX4_isWord_52 12 172 rfl)
theorem dX4_isWord_68 : decode cX4_isWord 68 = .ok (.goto (-32), 3) := o_167 (bg_dX4_isWord_52 16 167 rfl) (bg_dX4_isWord_52 17 255 rfl) (bg_dX4_isWord_52 18 224 rfl) (by decide +kernel)
theorem dX4_isWord_71 : decode cX4_isWord 71 = .ok (.iconst 1, 1) := o_4 (bg_dX4_isWord_52 19 4 rfl)
theorem dX4_isWord_72 : decode cX4_isWord 72 = .ok (.ireturn, 1) := o_172 (bg_dX4_isWord_52 20 172 rfl)
theorem bg_dX4_numberHere_0 : bysAt cX4_numberHere 0 [42, 180, 0, 31, 5, 160, 0, 16, 42, 180, 0, 22, 42, 180, 0, 28, 100, 6, 164, 0, 5, 2, 172, 3] := bysAt_of (by decide +kernel)
theorem dX4_numberHere_0 : decode cX4_numberHere 0 = .ok (.aload_n 0, 1) := o_42 (bg_dX4_numberHere_0 0 42 rfl)
theorem dX4_numberHere_1 : decode cX4_numberHere 1 = .ok (.getfield 31, 3) := o_180 (bg_dX4_numberHere_0 1 180 rfl) (bg_dX4_numberHere_0 2 0 rfl) (bg_dX4_numberHere_0 3 31 rfl)
theorem dX4_numberHere_4 : decode cX4_numberHere 4 = .ok (.iconst 2, 1) := o_5 (bg_dX4_numberHere_0 4 5 rfl)
theorem dX4_numberHere_5 : decode cX4_numberHere 5 = .ok (.if_icmp .ne 16, 3) := o_160 (bg_dX4_numberHere_0 5 160 rfl) (bg_dX4_numberHere_0 6 0 rfl) (bg_dX4_numberHere_0 7 16 rfl) (by decide +kernel)
theorem dX4_numberHere_8 : decode cX4_numberHere 8 = .ok (.aload_n 0, 1) := o_42 (bg_dX4_numberHere_0 8 42 rfl)
theorem dX4_numberHere_9 : decode cX4_numberHere 9 = .ok (.getfield 22, 3) := o_180 (bg_dX4_numberHere_0 9 180 rfl) (bg_dX4_numberHere_0 10 0 rfl) (bg_dX4_numberHere_0 11 22 rfl)
theorem dX4_numberHere_12 : decode cX4_numberHere 12 = .ok (.aload_n 0, 1) := o_42 (bg_dX4_numberHere_0 12 42 rfl)
theorem dX4_numberHere_13 : decode cX4_numberHere 13 = .ok (.getfield 28, 3) := o_180 (bg_dX4_numberHere_0 13 180 rfl) (bg_dX4_numberHere_0 14 0 rfl) (bg_dX4_numberHere_0 15 28 rfl)
theorem dX4_numberHere_16 : decode cX4_numberHere 16 = .ok (.isub, 1) := o_100 (bg_dX4_numberHere_0 16 100 rfl)
theorem dX4_numberHere_17 : decode cX4_numberHere 17 = .ok (.iconst 3, 1) := o_6 (bg_dX4_numberHere_0 17 6 rfl)
theorem dX4_numberHere_18 : decode cX4_numberHere 18 = .ok (.if_icmp .le 5, 3) := o_164 (bg_dX4_numberHere_0 18 164 rfl) (bg_dX4_numberHere_0 19 0 rfl) (bg_dX4_numberHere_0 20 5 rfl) (by decide +kernel)
theorem dX4_numberHere_21 : decode cX4_numberHere 21 = .ok (.iconst (-1), 1) := o_2 (bg_dX4_numberHere_0 21 2 rfl)
theorem dX4_numberHere_22 : decode cX4_numberHere 22 = .ok (.ireturn, 1) := o_172 (bg_dX4_numberHere_0 22 172 rfl)
theorem dX4_numberHere_23 : decode cX4_numberHere 23 = .ok (.iconst 0, 1) := o_3 (bg_dX4_numberHere_0 23 3 rfl)
theorem bg_dX4_numberHere_24 : bysAt cX4_numberHere 24 [60, 42, 180, 0, 28, 61, 28, 42, 180, 0, 22, 162, 0, 24, 27, 16, 10, 104, 42, 180, 0, 9, 28] := bysAt_of (by decide +kernel)
theorem dX4_numberHere_24 : decode cX4_numberHere 24 = .ok (.istore_n 1, 1) := o_60 (bg_dX4_numberHere_24 0 60 rfl)
theorem dX4_numberHere_25 : decode cX4_numberHere 25 = .ok (.aload_n 0, 1) := o_42 (bg_dX4_numberHere_24 1 42 rfl)
theorem dX4_numberHere_26 : decode cX4_numberHere 26 = .ok (.getfield 28, 3) := o_180 (bg_dX4_numberHere_24 2 180 rfl) (bg_dX4_numberHere_24 3 0 rfl) (bg_dX4_numberHere_24 4 28 rfl)
theorem dX4_numberHere_29 : decode cX4_numberHere 29 = .ok (.istore_n 2, 1) := o_61 (bg_dX4_numberHere_24 5 61 rfl)
theorem dX4_numberHere_30 : decode cX4_numberHere 30 = .ok (.iload_n 2, 1) := o_28 (bg_dX4_numberHere_24 6 28 rfl)
theorem dX4_numberHere_31 : decode cX4_numberHere 31 = .ok (.aload_n 0, 1) := o_42 (bg_dX4_numberHere_24 7 42 rfl)
theorem dX4_numberHere_32 : decode cX4_numberHere 32 = .ok (.getfield 22, 3) := o_180 (bg_dX4_numberHere_24 8 180 rfl) (bg_dX4_numberHere_24 9 0 rfl) (bg_dX4_numberHere_24 10 22 rfl)
theorem dX4_numberHere_35 : decode cX4_numberHere 35 = .ok (.if_icmp .ge 24, 3) := o_162 (bg_dX4_numberHere_24 11 162 rfl) (bg_dX4_numberHere_24 12 0 rfl) (bg_dX4_numberHere_24 13 24 rfl) (by decide +kernel)
theorem dX4_numberHere_38 : decode cX4_numberHere 38 = .ok (.iload_n 1, 1) := o_27 (bg_dX4_numberHere_24 14 27 rfl)
theorem dX4_numberHere_39 : decode cX4_numberHere 39 = .ok (.bipush 10, 2) := o_16 (bg_dX4_numberHere_24 15 16 rfl) (bg_dX4_numberHere_24 16 10 rfl) (by decide +kernel)
theorem dX4_numberHere_41 : decode cX4_numberHere 41 = .ok (.imul, 1) := o_104 (bg_dX4_numberHere_24 17 104 rfl)
theorem dX4_numberHere_42 : decode cX4_numberHere 42 = .ok (.aload_n 0, 1) := o_42 (bg_dX4_numberHere_24 18 42 rfl)
theorem dX4_numberHere_43 : decode cX4_numberHere 43 = .ok (.getfield 9, 3) := o_180 (bg_dX4_numberHere_24 19 180 rfl) (bg_dX4_numberHere_24 20 0 rfl) (bg_dX4_numberHere_24 21 9 rfl)
theorem dX4_numberHere_46 : decode cX4_numberHere 46 = .ok (.iload_n 2, 1) := o_28 (bg_dX4_numberHere_24 22 28 rfl)
theorem bg_dX4_numberHere_47 : bysAt cX4_numberHere 47 [46, 96, 16, 48, 100, 60, 132, 2, 1, 167, 255, 230, 27, 172] := bysAt_of (by decide +kernel)
theorem dX4_numberHere_47 : decode cX4_numberHere 47 = .ok (.iaload, 1) := o_46 (bg_dX4_numberHere_47 0 46 rfl)
theorem dX4_numberHere_48 : decode cX4_numberHere 48 = .ok (.iadd, 1) := o_96 (bg_dX4_numberHere_47 1 96 rfl)
theorem dX4_numberHere_49 : decode cX4_numberHere 49 = .ok (.bipush 48, 2) := o_16 (bg_dX4_numberHere_47 2 16 rfl) (bg_dX4_numberHere_47 3 48 rfl) (by decide +kernel)
theorem dX4_numberHere_51 : decode cX4_numberHere 51 = .ok (.isub, 1) := o_100 (bg_dX4_numberHere_47 4 100 rfl)
theorem dX4_numberHere_52 : decode cX4_numberHere 52 = .ok (.istore_n 1, 1) := o_60 (bg_dX4_numberHere_47 5 60 rfl)
theorem dX4_numberHere_56 : decode cX4_numberHere 56 = .ok (.goto (-26), 3) := o_167 (bg_dX4_numberHere_47 9 167 rfl) (bg_dX4_numberHere_47 10 255 rfl) (bg_dX4_numberHere_47 11 230 rfl) (by decide +kernel)
theorem dX4_numberHere_59 : decode cX4_numberHere 59 = .ok (.iload_n 1, 1) := o_27 (bg_dX4_numberHere_47 12 27 rfl)
theorem dX4_numberHere_60 : decode cX4_numberHere 60 = .ok (.ireturn, 1) := o_172 (bg_dX4_numberHere_47 13 172 rfl)
theorem bg_dX4_rewind_0 : bysAt cX4_rewind 0 [42, 2, 181, 0, 19, 42, 3, 181, 0, 22, 42, 182, 0, 25, 177] := bysAt_of (by decide +kernel)
theorem dX4_rewind_0 : decode cX4_rewind 0 = .ok (.aload_n 0, 1) := o_42 (bg_dX4_rewind_0 0 42 rfl)
theorem dX4_rewind_1 : decode cX4_rewind 1 = .ok (.iconst (-1), 1) := o_2 (bg_dX4_rewind_0 1 2 rfl)
theorem dX4_rewind_2 : decode cX4_rewind 2 = .ok (.putfield 19, 3) := o_181 (bg_dX4_rewind_0 2 181 rfl) (bg_dX4_rewind_0 3 0 rfl) (bg_dX4_rewind_0 4 19 rfl)
theorem dX4_rewind_5 : decode cX4_rewind 5 = .ok (.aload_n 0, 1) := o_42 (bg_dX4_rewind_0 5 42 rfl)
theorem dX4_rewind_6 : decode cX4_rewind 6 = .ok (.iconst 0, 1) := o_3 (bg_dX4_rewind_0 6 3 rfl)
theorem dX4_rewind_7 : decode cX4_rewind 7 = .ok (.putfield 22, 3) := o_181 (bg_dX4_rewind_0 7 181 rfl) (bg_dX4_rewind_0 8 0 rfl) (bg_dX4_rewind_0 9 22 rfl)
theorem dX4_rewind_10 : decode cX4_rewind 10 = .ok (.aload_n 0, 1) := o_42 (bg_dX4_rewind_0 10 42 rfl)
theorem dX4_rewind_11 : decode cX4_rewind 11 = .ok (.invokevirtual 25, 3) := o_182 (bg_dX4_rewind_0 11 182 rfl) (bg_dX4_rewind_0 12 0 rfl) (bg_dX4_rewind_0 13 25 rfl)
theorem dX4_rewind_14 : decode cX4_rewind 14 = .ok (.return_, 1) := o_177 (bg_dX4_rewind_0 14 177 rfl)
theorem bg_dX4_takeNumber_0 : bysAt cX4_takeNumber 0 [42, 182, 0, 51, 62, 42, 182, 0, 54, 153, 0, 12, 29, 27, 28, 184, 0, 58, 154, 0, 9, 42, 182, 0, 44, 2] := bysAt_of (by decide +kernel)
theorem dX4_takeNumber_0 : decode cX4_takeNumber 0 = .ok (.aload_n 0, 1) := o_42 (bg_dX4_takeNumber_0 0 42 rfl)
theorem dX4_takeNumber_1 : decode cX4_takeNumber 1 = .ok (.invokevirtual 51, 3) := o_182 (bg_dX4_takeNumber_0 1 182 rfl) (bg_dX4_takeNumber_0 2 0 rfl) (bg_dX4_takeNumber_0 3 51 rfl)
theorem dX4_takeNumber_4 : decode cX4_takeNumber 4 = .ok (.istore_n 3, 1) := o_62 (bg_dX4_takeNumber_0 4 62 rfl)
theorem dX4_takeNumber_5 : decode cX4_takeNumber 5 = .ok (.aload_n 0, 1) := o_42 (bg_dX4_takeNumber_0 5 42 rfl)
theorem dX4_takeNumber_6 : decode cX4_takeNumber 6 = .ok (.invokevirtual 54, 3) := o_182 (bg_dX4_takeNumber_0 6 182 rfl) (bg_dX4_takeNumber_0 7 0 rfl) (bg_dX4_takeNumber_0 8 54 rfl)
theorem dX4_takeNumber_9 : decode cX4_takeNumber 9 = .ok (.ifCond .eq 12, 3) := o_153 (bg_dX4_takeNumber_0 9 153 rfl) (bg_dX4_takeNumber_0 10 0 rfl) (bg_dX4_takeNumber_0 11 12 rfl) (by decide +kernel)
theorem dX4_takeNumber_12 : decode cX4_takeNumber 12 = .ok (.iload_n 3, 1) := o_29 (bg_dX4_takeNumber_0 12 29 rfl)
theorem dX4_takeNumber_13 : decode cX4_takeNumber 13 = .ok (.iload_n 1, 1) := o_27 (bg_dX4_takeNumber_0 13 27 rfl)
theorem dX4_takeNumber_14 : decode cX4_takeNumber 14 = .ok (.iload_n 2, 1) := o_28 (bg_dX4_takeNumber_0 14 28 rfl)
theorem dX4_takeNumber_15 : decode cX4_takeNumber 15 = .ok (.invokestatic 58, 3) := o_184 (bg_dX4_takeNumber_0 15 184 rfl) (bg_dX4_takeNumber_0 16 0 rfl) (bg_dX4_takeNumber_0 17 58 rfl)
theorem dX4_takeNumber_18 : decode cX4_takeNumber 18 = .ok (.ifCond .ne 9, 3) := o_154 (bg_dX4_takeNumber_0 18 154 rfl) (bg_dX4_takeNumber_0 19 0 rfl) (bg_dX4_takeNumber_0 20 9 rfl) (by decide +kernel)
theorem dX4_takeNumber_21 : decode cX4_takeNumber 21 = .ok (.aload_n 0, 1) := o_42 (bg_dX4_takeNumber_0 21 42 rfl)
theorem dX4_takeNumber_22 : decode cX4_takeNumber 22 = .ok (.invokevirtual 44, 3) := o_182 (bg_dX4_takeNumber_0 22 182 rfl) (bg_dX4_takeNumber_0 23 0 rfl) (bg_dX4_takeNumber_0 24 44 rfl)
theorem dX4_takeNumber_25 : decode cX4_takeNumber 25 = .ok (.iconst (-1), 1) := o_2 (bg_dX4_takeNumber_0 25 2 rfl)
theorem bg_dX4_takeNumber_26 : bysAt cX4_takeNumber 26 [172, 42, 182, 0, 25, 29, 172] := bysAt_of (by decide +kernel)
theorem dX4_takeNumber_26 : decode cX4_takeNumber 26 = .ok (.ireturn, 1) := o_172 (bg_dX4_takeNumber_26 0 172 rfl)
theorem dX4_takeNumber_27 : decode cX4_takeNumber 27 = .ok (.aload_n 0, 1) := o_42 (bg_dX4_takeNumber_26 1 42 rfl)
theorem dX4_takeNumber_28 : decode cX4_takeNumber 28 = .ok (.invokevirtual 25, 3) := o_182 (bg_dX4_takeNumber_26 2 182 rfl) (bg_dX4_takeNumber_26 3 0 rfl) (bg_dX4_takeNumber_26 4 25 rfl)
theorem dX4_takeNumber_31 : decode cX4_takeNumber 31 = .ok (.iload_n 3, 1) := o_29 (bg_dX4_takeNumber_26 5 29 rfl)
theorem dX4_takeNumber_32 : decode cX4_takeNumber 32 = .ok (.ireturn, 1) := o_172 (bg_dX4_takeNumber_26 6 172 rfl)
theorem bg_dX4_takeSign_0 : bysAt cX4_takeSign 0 [42, 180, 0, 31, 6, 160, 0, 10, 42, 182, 0, 25, 167, 0, 7, 42, 182, 0, 44, 177] := bysAt_of (by decide +kernel)
theorem dX4_takeSign_0 : decode cX4_takeSign 0 = .ok (.aload_n 0, 1) := o_42 (bg_dX4_takeSign_0 0 42 rfl)
theorem dX4_takeSign_1 : decode cX4_takeSign 1 = .ok (.getfield 31, 3) := o_180 (bg_dX4_takeSign_0 1 180 rfl) (bg_dX4_takeSign_0 2 0 rfl) (bg_dX4_takeSign_0 3 31 rfl)
theorem dX4_takeSign_4 : decode cX4_takeSign 4 = .ok (.iconst 3, 1) := o_6 (bg_dX4_takeSign_0 4 6 rfl)
theorem dX4_takeSign_5 : decode cX4_takeSign 5 = .ok (.if_icmp .ne 10, 3) := o_160 (bg_dX4_takeSign_0 5 160 rfl) (bg_dX4_takeSign_0 6 0 rfl) (bg_dX4_takeSign_0 7 10 rfl) (by decide +kernel)
theorem dX4_takeSign_8 : decode cX4_takeSign 8 = .ok (.aload_n 0, 1) := o_42 (bg_dX4_takeSign_0 8 42 rfl)
theorem dX4_takeSign_9 : decode cX4_takeSign 9 = .ok (.invokevirtual 25, 3) := o_182 (bg_dX4_takeSign_0 9 182 rfl) (bg_dX4_takeSign_0 10 0 rfl) (bg_dX4_takeSign_0 11 25 rfl)
theorem dX4_takeSign_12 : decode cX4_takeSign 12 = .ok (.goto 7, 3) := o_167 (bg_dX4_takeSign_0 12 167 rfl) (bg_dX4_takeSign_0 13 0 rfl) (bg_dX4_takeSign_0 14 7 rfl) (by decide +kernel)
theorem dX4_takeSign_15 : decode cX4_takeSign 15 = .ok (.aload_n 0, 1) := o_42 (bg_dX4_takeSign_0 15 42 rfl)
theorem dX4_takeSign_16 : decode cX4_takeSign 16 = .ok (.invokevirtual 44, 3) := o_182 (bg_dX4_takeSign_0 16 182 rfl) (bg_dX4_takeSign_0 17 0 rfl) (bg_dX4_takeSign_0 18 44 rfl)
theorem dX4_takeSign_19 : decode cX4_takeSign 19 = .ok (.return_, 1) := o_177 (bg_dX4_takeSign_0 19 177 rfl)
theorem bg_dX4_takeWord_0 : bysAt cX4_takeWord 0 [42, 43, 182, 0, 47, 153, 0, 10, 42, 182, 0, 25, 167, 0, 7, 42, 182, 0, 44, 177] := bysAt_of (by decide +kernel)
theorem dX4_takeWord_0 : decode cX4_takeWord 0 = .ok (.aload_n 0, 1) := o_42 (bg_dX4_takeWord_0 0 42 rfl)
theorem dX4_takeWord_1 : decode cX4_takeWord 1 = .ok (.aload_n 1, 1) := o_43 (bg_dX4_takeWord_0 1 43 rfl)
theorem dX4_takeWord_2 : decode cX4_takeWord 2 = .ok (.invokevirtual 47, 3) := o_182 (bg_dX4_takeWord_0 2 182 rfl) (bg_dX4_takeWord_0 3 0 rfl) (bg_dX4_takeWord_0 4 47 rfl)
theorem dX4_takeWord_5 : decode cX4_takeWord 5 = .ok (.ifCond .eq 10, 3) := o_153 (bg_dX4_takeWord_0 5 153 rfl) (bg_dX4_takeWord_0 6 0 rfl) (bg_dX4_takeWord_0 7 10 rfl) (by decide +kernel)
theorem dX4_takeWord_8 : decode cX4_takeWord 8 = .ok (.aload_n 0, 1) := o_42 (bg_dX4_takeWord_0 8 42 rfl)
theorem dX4_takeWord_9 : decode cX4_takeWord 9 = .ok (.invokevirtual 25, 3) := o_182 (bg_dX4_takeWord_0 9 182 rfl) (bg_dX4_takeWord_0 10 0 rfl) (bg_dX4_takeWord_0 11 25 rfl)
theorem dX4_takeWord_12 : decode cX4_takeWord 12 = .ok (.goto 7, 3) := o_167 (bg_dX4_takeWord_0 12 167 rfl) (bg_dX4_takeWord_0 13 0 rfl) (bg_dX4_takeWord_0 14 7 rfl) (by decide +kernel)
theorem dX4_takeWord_15 : decode cX4_takeWord 15 = .ok (.aload_n 0, 1) := o_42 (bg_dX4_takeWord_0 15 42 rfl)
theorem dX4_takeWord_16 : decode cX4_takeWord 16 = .ok (.invokevirtual 44, 3) := o_182 (bg_dX4_takeWord_0 16 182 rfl) (bg_dX4_takeWord_0 17 0 rfl) (bg_dX4_takeWord_0 18 44 rfl)
theorem dX4_takeWord_19 : decode cX4_takeWord 19 = .ok (.return_, 1) := o_177 (bg_dX4_takeWord_0 19 177 rfl)
theorem bg_dX4_takeWordIfThere_0 : bysAt cX4_takeWordIfThere 0 [42, 43, 182, 0, 47, 61, 28, 153, 0, 7, 42, 182, 0, 25, 28, 172] := bysAt_of (by decide +kernel)
theorem dX4_takeWordIfThere_0 : decode cX4_takeWordIfThere 0 = .ok (.aload_n 0, 1) := o_42 (bg_dX4_takeWordIfThere_0 0 42 rfl)
theorem dX4_takeWordIfThere_1 : decode cX4_takeWordIfThere 1 = .ok (.aload_n 1, 1) := o_43 (bg_dX4_takeWordIfThere_0 1 43 rfl)
theorem dX4_takeWordIfThere_2 : decode cX4_takeWordIfThere 2 = .ok (.invokevirtual 47, 3) := o_182 (bg_dX4_takeWordIfThere_0 2 182 rfl) (bg_dX4_takeWordIfThere_0 3 0 rfl) (bg_dX4_takeWordIfThere_0 4 47 rfl)
theorem dX4_takeWordIfThere_5 : decode cX4_takeWordIfThere 5 = .ok (.istore_n 2, 1) := o_61 (bg_dX4_takeWordIfThere_0 5 61 rfl)
theorem dX4_takeWordIfThere_6 : decode cX4_takeWordIfThere 6 = .ok (.iload_n 2, 1) := o_28 (bg_dX4_takeWordIfThere_0 6 28 rfl)
theorem dX4_takeWordIfThere_7 : decode cX4_takeWordIfThere 7 = .ok (.ifCond .eq 7, 3) := o_153 (bg_dX4_takeWordIfThere_0 7 153 rfl) (bg_dX4_takeWordIfThere_0 8 0 rfl) (bg_dX4_takeWordIfThere_0 9 7 rfl) (by decide +kernel)
theorem dX4_takeWordIfThere_10 : decode cX4_takeWordIfThere 10 = .ok (.aload_n 0, 1) := o_42 (bg_dX4_takeWordIfThere_0 10 42 rfl)
theorem dX4_takeWordIfThere_11 : decode cX4_takeWordIfThere 11 = .ok (.invokevirtual 25, 3) := o_182 (bg_dX4_takeWordIfThere_0 11 182 rfl) (bg_dX4_takeWordIfThere_0 12 0 rfl) (bg_dX4_takeWordIfThere_0 13 25 rfl)
theorem dX4_takeWordIfThere_14 : decode cX4_takeWordIfThere 14 = .ok (.iload_n 2, 1) := o_28 (bg_dX4_takeWordIfThere_0 14 28 rfl)
theorem dX4_takeWordIfThere_15 : decode cX4_takeWordIfThere 15 = .ok (.ireturn, 1) := o_172 (bg_dX4_takeWordIfThere_0 15 172 rfl)
theorem pdVJ0_charAt_5068e : yJ0_charAt_5068e.cls = RJ0 ∧ yJ0_charAt_5068e.cls ≠ "java/lang/invoke/MethodHandle" ∧ yJ0_charAt_5068e.cls ≠ "java/lang/invoke/VarHandle" ∧ (parseMethodDescriptor yJ0_charAt_5068e.desc).map (fun d => d.parameters.length) = some 1 := by decide +kernel
theorem pdVJ0_length_8abf5 : yJ0_length_8abf5.cls = RJ0 ∧ yJ0_length_8abf5.cls ≠ "java/lang/invoke/MethodHandle" ∧ yJ0_length_8abf5.cls ≠ "java/lang/invoke/VarHandle" ∧ (parseMethodDescriptor yJ0_length_8abf5.desc).map (fun d => d.parameters.length) = some 0 := by decide +kernel
theorem pdVX4_advance : yX4_advance.cls = RX4 ∧ yX4_advance.cls ≠ "java/lang/invoke/MethodHandle" ∧ yX4_advance.cls ≠ "java/lang/invoke/VarHandle" ∧ (parseMethodDescriptor yX4_advance.desc).map (fun d => d.parameters.length) = some 0 := by decide +kernel
theorem pdVX4_fail : yX4_fail.cls = RX4 ∧ yX4_fail.cls ≠ "java/lang/invoke/MethodHandle" ∧ yX4_fail.cls ≠ "java/lang/invoke/VarHandle" ∧ (parseMethodDescriptor yX4_fail.desc).map (fun d => d.parameters.length) = some 0 := by decide +kernel
theorem pdVX4_isSound : yX4_isSound.cls = RX4 ∧ yX4_isSound.cls ≠ "java/lang/invoke/MethodHandle" ∧ yX4_isSound.cls ≠ "java/lang/invoke/VarHandle" ∧ (parseMethodDescriptor yX4_isSound.desc).map (fun d => d.parameters.length) = some 0 := by decide +kernel
theorem pdVX4_isWord : yX4_isWord.cls = RX4 ∧ yX4_isWord.cls ≠ "java/lang/invoke/MethodHandle" ∧ yX4_isWord.cls ≠ "java/lang/invoke/VarHandle" ∧ (parseMethodDescriptor yX4_isWord.desc).map (fun d => d.parameters.length) = some 1 := by decide +kernel
theorem pdVX4_numberHere : yX4_numberHere.cls = RX4 ∧ yX4_numberHere.cls ≠ "java/lang/invoke/MethodHandle" ∧ yX4_numberHere.cls ≠ "java/lang/invoke/VarHandle" ∧ (parseMethodDescriptor yX4_numberHere.desc).map (fun d => d.parameters.length) = some 0 := by decide +kernel
theorem dX4_append_37 : decode cX4_append 37 = .ok (.iinc 3 (-1), 3) := by decide +kernel
theorem dX4_isWord_65 : decode cX4_isWord 65 = .ok (.iinc 2 1, 3) := by decide +kernel
theorem dX4_numberHere_53 : decode cX4_numberHere 53 = .ok (.iinc 2 1, 3) := by decide +kernel
theorem oh_wix {a b i n : Int32} (hb : rg b 0 250) (ha : rg a 0 250) (e : b - a = n) (h0 : rg i 0 6) (c : i < n) : vp_in (a + i) 250 := by
  have h1 := Int32.lt_iff_toInt_lt.mp c
  have e1 : (b - a).toInt = b.toInt - a.toInt := by
    rw [Int32.toInt_sub]
    exact oh_bmod (by have := hb.1; have := ha.2; omega) (by have := hb.2; have := ha.1; omega)
  rw [e] at e1
  have e2 : (a + i).toInt = a.toInt + i.toInt := by
    rw [Int32.toInt_add]
    exact oh_bmod (by have := ha.1; have := h0.1; omega) (by have := ha.2; have := h0.2; omega)
  refine vp_in_iff.mpr ⟨?_, ?_⟩
  · rw [e2]; have := ha.1; have := h0.1; omega
  · rw [e2]; have := hb.2; omega

theorem oh_ap1 {z n s0 s : Int32} (hz : rg z 0 3) (hs0 : rg s0 0 250) (hn : rg n 1 4) (hp : s0.toInt + n.toInt ≤ 250) (hi : s.toInt + z.toInt = s0.toInt + n.toInt - 1) : rg s (-2147483648) 249 := ⟨by have := Int32.le_toInt s; omega, by have := hz.1; omega⟩
theorem oh_add1 {s : Int32} (h : rg s 0 249) : (s + 1).toInt = s.toInt + 1 := by
  rw [Int32.toInt_add]
  exact oh_bmod (by show _ ≤ s.toInt + 1; have := h.1; omega) (by show s.toInt + 1 ≤ _; have := h.2; omega)
theorem oh_sub1 {z : Int32} (h : rg z 0 4) : (z + (-1)).toInt = z.toInt - 1 := by
  rw [Int32.toInt_add]
  exact oh_bmod (by show _ ≤ z.toInt + (-1); have := h.1; omega) (by show z.toInt + (-1) ≤ _; have := h.2; omega)
theorem oh_sub1' {z : Int32} (h : rg z 1 4) : (z - 1).toInt = z.toInt - 1 := by
  rw [Int32.toInt_sub]
  exact oh_bmod (by show _ ≤ z.toInt - 1; have := h.1; omega) (by show z.toInt - 1 ≤ _; have := h.2; omega)
theorem bg_dX2_enter_0 : bysAt cX2_enter 0 [42, 180, 0, 15, 27, 182, 0, 99, 153, 0, 13, 42, 180, 0, 9, 182, 0, 103, 167, 0, 10, 42, 180, 0, 9, 182, 0, 96, 177] := bysAt_of (by decide +kernel)
theorem dX2_enter_0 : decode cX2_enter 0 = .ok (.aload_n 0, 1) := o_42 (bg_dX2_enter_0 0 42 rfl)
theorem dX2_enter_1 : decode cX2_enter 1 = .ok (.getfield 15, 3) := o_180 (bg_dX2_enter_0 1 180 rfl) (bg_dX2_enter_0 2 0 rfl) (bg_dX2_enter_0 3 15 rfl)
theorem dX2_enter_4 : decode cX2_enter 4 = .ok (.iload_n 1, 1) := o_27 (bg_dX2_enter_0 4 27 rfl)
theorem dX2_enter_5 : decode cX2_enter 5 = .ok (.invokevirtual 99, 3) := o_182 (bg_dX2_enter_0 5 182 rfl) (bg_dX2_enter_0 6 0 rfl) (bg_dX2_enter_0 7 99 rfl)
theorem dX2_enter_8 : decode cX2_enter 8 = .ok (.ifCond .eq 13, 3) := o_153 (bg_dX2_enter_0 8 153 rfl) (bg_dX2_enter_0 9 0 rfl) (bg_dX2_enter_0 10 13 rfl) (by decide +kernel)
theorem dX2_enter_11 : decode cX2_enter 11 = .ok (.aload_n 0, 1) := o_42 (bg_dX2_enter_0 11 42 rfl)
theorem dX2_enter_12 : decode cX2_enter 12 = .ok (.getfield 9, 3) := o_180 (bg_dX2_enter_0 12 180 rfl) (bg_dX2_enter_0 13 0 rfl) (bg_dX2_enter_0 14 9 rfl)
theorem dX2_enter_15 : decode cX2_enter 15 = .ok (.invokevirtual 103, 3) := o_182 (bg_dX2_enter_0 15 182 rfl) (bg_dX2_enter_0 16 0 rfl) (bg_dX2_enter_0 17 103 rfl)
theorem dX2_enter_18 : decode cX2_enter 18 = .ok (.goto 10, 3) := o_167 (bg_dX2_enter_0 18 167 rfl) (bg_dX2_enter_0 19 0 rfl) (bg_dX2_enter_0 20 10 rfl) (by decide +kernel)
theorem dX2_enter_21 : decode cX2_enter 21 = .ok (.aload_n 0, 1) := o_42 (bg_dX2_enter_0 21 42 rfl)
theorem dX2_enter_22 : decode cX2_enter 22 = .ok (.getfield 9, 3) := o_180 (bg_dX2_enter_0 22 180 rfl) (bg_dX2_enter_0 23 0 rfl) (bg_dX2_enter_0 24 9 rfl)
theorem dX2_enter_25 : decode cX2_enter 25 = .ok (.invokevirtual 96, 3) := o_182 (bg_dX2_enter_0 25 182 rfl) (bg_dX2_enter_0 26 0 rfl) (bg_dX2_enter_0 27 96 rfl)
theorem dX2_enter_28 : decode cX2_enter 28 = .ok (.return_, 1) := o_177 (bg_dX2_enter_0 28 177 rfl)
theorem bg_dX2_number_0 : bysAt cX2_number 0 [42, 180, 0, 9, 43, 182, 0, 169, 42, 180, 0, 9, 28, 29, 182, 0, 109, 172] := bysAt_of (by decide +kernel)
theorem dX2_number_0 : decode cX2_number 0 = .ok (.aload_n 0, 1) := o_42 (bg_dX2_number_0 0 42 rfl)
theorem dX2_number_1 : decode cX2_number 1 = .ok (.getfield 9, 3) := o_180 (bg_dX2_number_0 1 180 rfl) (bg_dX2_number_0 2 0 rfl) (bg_dX2_number_0 3 9 rfl)
theorem dX2_number_4 : decode cX2_number 4 = .ok (.aload_n 1, 1) := o_43 (bg_dX2_number_0 4 43 rfl)
theorem dX2_number_5 : decode cX2_number 5 = .ok (.invokevirtual 169, 3) := o_182 (bg_dX2_number_0 5 182 rfl) (bg_dX2_number_0 6 0 rfl) (bg_dX2_number_0 7 169 rfl)
theorem dX2_number_8 : decode cX2_number 8 = .ok (.aload_n 0, 1) := o_42 (bg_dX2_number_0 8 42 rfl)
theorem dX2_number_9 : decode cX2_number 9 = .ok (.getfield 9, 3) := o_180 (bg_dX2_number_0 9 180 rfl) (bg_dX2_number_0 10 0 rfl) (bg_dX2_number_0 11 9 rfl)
theorem dX2_number_12 : decode cX2_number 12 = .ok (.iload_n 2, 1) := o_28 (bg_dX2_number_0 12 28 rfl)
theorem dX2_number_13 : decode cX2_number 13 = .ok (.iload_n 3, 1) := o_29 (bg_dX2_number_0 13 29 rfl)
theorem dX2_number_14 : decode cX2_number 14 = .ok (.invokevirtual 109, 3) := o_182 (bg_dX2_number_0 14 182 rfl) (bg_dX2_number_0 15 0 rfl) (bg_dX2_number_0 16 109 rfl)
theorem dX2_number_17 : decode cX2_number 17 = .ok (.ireturn, 1) := o_172 (bg_dX2_number_0 17 172 rfl)
theorem bg_dX2_numberIfTold_0 : bysAt cX2_numberIfTold 0 [42, 180, 0, 9, 43, 182, 0, 87, 153, 0, 15, 42, 180, 0, 9, 28, 29, 182, 0, 109, 167, 0, 5, 21, 4, 172] := bysAt_of (by decide +kernel)
theorem dX2_numberIfTold_0 : decode cX2_numberIfTold 0 = .ok (.aload_n 0, 1) := o_42 (bg_dX2_numberIfTold_0 0 42 rfl)
theorem dX2_numberIfTold_1 : decode cX2_numberIfTold 1 = .ok (.getfield 9, 3) := o_180 (bg_dX2_numberIfTold_0 1 180 rfl) (bg_dX2_numberIfTold_0 2 0 rfl) (bg_dX2_numberIfTold_0 3 9 rfl)
theorem dX2_numberIfTold_4 : decode cX2_numberIfTold 4 = .ok (.aload_n 1, 1) := o_43 (bg_dX2_numberIfTold_0 4 43 rfl)
theorem dX2_numberIfTold_5 : decode cX2_numberIfTold 5 = .ok (.invokevirtual 87, 3) := o_182 (bg_dX2_numberIfTold_0 5 182 rfl) (bg_dX2_numberIfTold_0 6 0 rfl) (bg_dX2_numberIfTold_0 7 87 rfl)
theorem dX2_numberIfTold_8 : decode cX2_numberIfTold 8 = .ok (.ifCond .eq 15, 3) := o_153 (bg_dX2_numberIfTold_0 8 153 rfl) (bg_dX2_numberIfTold_0 9 0 rfl) (bg_dX2_numberIfTold_0 10 15 rfl) (by decide +kernel)
theorem dX2_numberIfTold_11 : decode cX2_numberIfTold 11 = .ok (.aload_n 0, 1) := o_42 (bg_dX2_numberIfTold_0 11 42 rfl)
theorem dX2_numberIfTold_12 : decode cX2_numberIfTold 12 = .ok (.getfield 9, 3) := o_180 (bg_dX2_numberIfTold_0 12 180 rfl) (bg_dX2_numberIfTold_0 13 0 rfl) (bg_dX2_numberIfTold_0 14 9 rfl)
theorem dX2_numberIfTold_15 : decode cX2_numberIfTold 15 = .ok (.iload_n 2, 1) := o_28 (bg_dX2_numberIfTold_0 15 28 rfl)
theorem dX2_numberIfTold_16 : decode cX2_numberIfTold 16 = .ok (.iload_n 3, 1) := o_29 (bg_dX2_numberIfTold_0 16 29 rfl)
theorem dX2_numberIfTold_17 : decode cX2_numberIfTold 17 = .ok (.invokevirtual 109, 3) := o_182 (bg_dX2_numberIfTold_0 17 182 rfl) (bg_dX2_numberIfTold_0 18 0 rfl) (bg_dX2_numberIfTold_0 19 109 rfl)
theorem dX2_numberIfTold_20 : decode cX2_numberIfTold 20 = .ok (.goto 5, 3) := o_167 (bg_dX2_numberIfTold_0 20 167 rfl) (bg_dX2_numberIfTold_0 21 0 rfl) (bg_dX2_numberIfTold_0 22 5 rfl) (by decide +kernel)
theorem dX2_numberIfTold_23 : decode cX2_numberIfTold 23 = .ok (.iload 4, 2) := o_21 (bg_dX2_numberIfTold_0 23 21 rfl) (bg_dX2_numberIfTold_0 24 4 rfl)
theorem dX2_numberIfTold_25 : decode cX2_numberIfTold 25 = .ok (.ireturn, 1) := o_172 (bg_dX2_numberIfTold_0 25 172 rfl)
theorem bg_dX2_read_0 : bysAt cX2_read 0 [42, 180, 0, 15, 180, 0, 29, 3, 42, 180, 0, 23, 3, 42, 180, 0, 23, 190, 184, 0, 34, 42, 180, 0, 15, 180, 0, 40] := bysAt_of (by decide +kernel)
theorem dX2_read_0 : decode cX2_read 0 = .ok (.aload_n 0, 1) := o_42 (bg_dX2_read_0 0 42 rfl)
theorem dX2_read_1 : decode cX2_read 1 = .ok (.getfield 15, 3) := o_180 (bg_dX2_read_0 1 180 rfl) (bg_dX2_read_0 2 0 rfl) (bg_dX2_read_0 3 15 rfl)
theorem dX2_read_4 : decode cX2_read 4 = .ok (.getfield 29, 3) := o_180 (bg_dX2_read_0 4 180 rfl) (bg_dX2_read_0 5 0 rfl) (bg_dX2_read_0 6 29 rfl)
theorem dX2_read_7 : decode cX2_read 7 = .ok (.iconst 0, 1) := o_3 (bg_dX2_read_0 7 3 rfl)
theorem dX2_read_8 : decode cX2_read 8 = .ok (.aload_n 0, 1) := o_42 (bg_dX2_read_0 8 42 rfl)
theorem dX2_read_9 : decode cX2_read 9 = .ok (.getfield 23, 3) := o_180 (bg_dX2_read_0 9 180 rfl) (bg_dX2_read_0 10 0 rfl) (bg_dX2_read_0 11 23 rfl)
theorem dX2_read_12 : decode cX2_read 12 = .ok (.iconst 0, 1) := o_3 (bg_dX2_read_0 12 3 rfl)
theorem dX2_read_13 : decode cX2_read 13 = .ok (.aload_n 0, 1) := o_42 (bg_dX2_read_0 13 42 rfl)
theorem dX2_read_14 : decode cX2_read 14 = .ok (.getfield 23, 3) := o_180 (bg_dX2_read_0 14 180 rfl) (bg_dX2_read_0 15 0 rfl) (bg_dX2_read_0 16 23 rfl)
theorem dX2_read_17 : decode cX2_read 17 = .ok (.arraylength, 1) := o_190 (bg_dX2_read_0 17 190 rfl)
theorem dX2_read_18 : decode cX2_read 18 = .ok (.invokestatic 34, 3) := o_184 (bg_dX2_read_0 18 184 rfl) (bg_dX2_read_0 19 0 rfl) (bg_dX2_read_0 20 34 rfl)
theorem dX2_read_21 : decode cX2_read 21 = .ok (.aload_n 0, 1) := o_42 (bg_dX2_read_0 21 42 rfl)
theorem dX2_read_22 : decode cX2_read 22 = .ok (.getfield 15, 3) := o_180 (bg_dX2_read_0 22 180 rfl) (bg_dX2_read_0 23 0 rfl) (bg_dX2_read_0 24 15 rfl)
theorem dX2_read_25 : decode cX2_read 25 = .ok (.getfield 40, 3) := o_180 (bg_dX2_read_0 25 180 rfl) (bg_dX2_read_0 26 0 rfl) (bg_dX2_read_0 27 40 rfl)
theorem bg_dX2_read_28 : bysAt cX2_read 28 [3, 42, 180, 0, 26, 3, 42, 180, 0, 26, 190, 184, 0, 34, 42, 180, 0, 9, 182, 0, 43, 42, 182, 0, 48, 4] := bysAt_of (by decide +kernel)
theorem dX2_read_28 : decode cX2_read 28 = .ok (.iconst 0, 1) := o_3 (bg_dX2_read_28 0 3 rfl)
theorem dX2_read_29 : decode cX2_read 29 = .ok (.aload_n 0, 1) := o_42 (bg_dX2_read_28 1 42 rfl)
theorem dX2_read_30 : decode cX2_read 30 = .ok (.getfield 26, 3) := o_180 (bg_dX2_read_28 2 180 rfl) (bg_dX2_read_28 3 0 rfl) (bg_dX2_read_28 4 26 rfl)
theorem dX2_read_33 : decode cX2_read 33 = .ok (.iconst 0, 1) := o_3 (bg_dX2_read_28 5 3 rfl)
theorem dX2_read_34 : decode cX2_read 34 = .ok (.aload_n 0, 1) := o_42 (bg_dX2_read_28 6 42 rfl)
theorem dX2_read_35 : decode cX2_read 35 = .ok (.getfield 26, 3) := o_180 (bg_dX2_read_28 7 180 rfl) (bg_dX2_read_28 8 0 rfl) (bg_dX2_read_28 9 26 rfl)
theorem dX2_read_38 : decode cX2_read 38 = .ok (.arraylength, 1) := o_190 (bg_dX2_read_28 10 190 rfl)
theorem dX2_read_39 : decode cX2_read 39 = .ok (.invokestatic 34, 3) := o_184 (bg_dX2_read_28 11 184 rfl) (bg_dX2_read_28 12 0 rfl) (bg_dX2_read_28 13 34 rfl)
theorem dX2_read_42 : decode cX2_read 42 = .ok (.aload_n 0, 1) := o_42 (bg_dX2_read_28 14 42 rfl)
theorem dX2_read_43 : decode cX2_read 43 = .ok (.getfield 9, 3) := o_180 (bg_dX2_read_28 15 180 rfl) (bg_dX2_read_28 16 0 rfl) (bg_dX2_read_28 17 9 rfl)
theorem dX2_read_46 : decode cX2_read 46 = .ok (.invokevirtual 43, 3) := o_182 (bg_dX2_read_28 18 182 rfl) (bg_dX2_read_28 19 0 rfl) (bg_dX2_read_28 20 43 rfl)
theorem dX2_read_49 : decode cX2_read 49 = .ok (.aload_n 0, 1) := o_42 (bg_dX2_read_28 21 42 rfl)
theorem dX2_read_50 : decode cX2_read 50 = .ok (.invokevirtual 48, 3) := o_182 (bg_dX2_read_28 22 182 rfl) (bg_dX2_read_28 23 0 rfl) (bg_dX2_read_28 24 48 rfl)
theorem dX2_read_53 : decode cX2_read 53 = .ok (.iconst 1, 1) := o_4 (bg_dX2_read_28 25 4 rfl)
theorem bg_dX2_read_54 : bysAt cX2_read 54 [60, 42, 180, 0, 9, 182, 0, 51, 153, 0, 37, 42, 180, 0, 9, 182, 0, 55, 154, 0, 27, 27, 17, 0, 250, 162, 0, 20, 42, 180, 0, 9] := bysAt_of (by decide +kernel)
theorem dX2_read_54 : decode cX2_read 54 = .ok (.istore_n 1, 1) := o_60 (bg_dX2_read_54 0 60 rfl)
theorem dX2_read_55 : decode cX2_read 55 = .ok (.aload_n 0, 1) := o_42 (bg_dX2_read_54 1 42 rfl)
theorem dX2_read_56 : decode cX2_read 56 = .ok (.getfield 9, 3) := o_180 (bg_dX2_read_54 2 180 rfl) (bg_dX2_read_54 3 0 rfl) (bg_dX2_read_54 4 9 rfl)
theorem dX2_read_59 : decode cX2_read 59 = .ok (.invokevirtual 51, 3) := o_182 (bg_dX2_read_54 5 182 rfl) (bg_dX2_read_54 6 0 rfl) (bg_dX2_read_54 7 51 rfl)
theorem dX2_read_62 : decode cX2_read 62 = .ok (.ifCond .eq 37, 3) := o_153 (bg_dX2_read_54 8 153 rfl) (bg_dX2_read_54 9 0 rfl) (bg_dX2_read_54 10 37 rfl) (by decide +kernel)
theorem dX2_read_65 : decode cX2_read 65 = .ok (.aload_n 0, 1) := o_42 (bg_dX2_read_54 11 42 rfl)
theorem dX2_read_66 : decode cX2_read 66 = .ok (.getfield 9, 3) := o_180 (bg_dX2_read_54 12 180 rfl) (bg_dX2_read_54 13 0 rfl) (bg_dX2_read_54 14 9 rfl)
theorem dX2_read_69 : decode cX2_read 69 = .ok (.invokevirtual 55, 3) := o_182 (bg_dX2_read_54 15 182 rfl) (bg_dX2_read_54 16 0 rfl) (bg_dX2_read_54 17 55 rfl)
theorem dX2_read_72 : decode cX2_read 72 = .ok (.ifCond .ne 27, 3) := o_154 (bg_dX2_read_54 18 154 rfl) (bg_dX2_read_54 19 0 rfl) (bg_dX2_read_54 20 27 rfl) (by decide +kernel)
theorem dX2_read_75 : decode cX2_read 75 = .ok (.iload_n 1, 1) := o_27 (bg_dX2_read_54 21 27 rfl)
theorem dX2_read_76 : decode cX2_read 76 = .ok (.sipush 250, 3) := o_17 (bg_dX2_read_54 22 17 rfl) (bg_dX2_read_54 23 0 rfl) (bg_dX2_read_54 24 250 rfl) (by decide +kernel)
theorem dX2_read_79 : decode cX2_read 79 = .ok (.if_icmp .ge 20, 3) := o_162 (bg_dX2_read_54 25 162 rfl) (bg_dX2_read_54 26 0 rfl) (bg_dX2_read_54 27 20 rfl) (by decide +kernel)
theorem dX2_read_82 : decode cX2_read 82 = .ok (.aload_n 0, 1) := o_42 (bg_dX2_read_54 28 42 rfl)
theorem dX2_read_83 : decode cX2_read 83 = .ok (.getfield 9, 3) := o_180 (bg_dX2_read_54 29 180 rfl) (bg_dX2_read_54 30 0 rfl) (bg_dX2_read_54 31 9 rfl)
theorem bg_dX2_read_86 : bysAt cX2_read 86 [182, 0, 58, 42, 182, 0, 48, 132, 1, 1, 167, 255, 215, 42, 180, 0, 9, 182, 0, 51, 154, 0, 45, 42, 180, 0, 23, 3, 42, 180, 0, 15, 180, 0, 29] := bysAt_of (by decide +kernel)
theorem dX2_read_86 : decode cX2_read 86 = .ok (.invokevirtual 58, 3) := o_182 (bg_dX2_read_86 0 182 rfl) (bg_dX2_read_86 1 0 rfl) (bg_dX2_read_86 2 58 rfl)
theorem dX2_read_89 : decode cX2_read 89 = .ok (.aload_n 0, 1) := o_42 (bg_dX2_read_86 3 42 rfl)
theorem dX2_read_90 : decode cX2_read 90 = .ok (.invokevirtual 48, 3) := o_182 (bg_dX2_read_86 4 182 rfl) (bg_dX2_read_86 5 0 rfl) (bg_dX2_read_86 6 48 rfl)
theorem dX2_read_96 : decode cX2_read 96 = .ok (.goto (-41), 3) := o_167 (bg_dX2_read_86 10 167 rfl) (bg_dX2_read_86 11 255 rfl) (bg_dX2_read_86 12 215 rfl) (by decide +kernel)
theorem dX2_read_99 : decode cX2_read 99 = .ok (.aload_n 0, 1) := o_42 (bg_dX2_read_86 13 42 rfl)
theorem dX2_read_100 : decode cX2_read 100 = .ok (.getfield 9, 3) := o_180 (bg_dX2_read_86 14 180 rfl) (bg_dX2_read_86 15 0 rfl) (bg_dX2_read_86 16 9 rfl)
theorem dX2_read_103 : decode cX2_read 103 = .ok (.invokevirtual 51, 3) := o_182 (bg_dX2_read_86 17 182 rfl) (bg_dX2_read_86 18 0 rfl) (bg_dX2_read_86 19 51 rfl)
theorem dX2_read_106 : decode cX2_read 106 = .ok (.ifCond .ne 45, 3) := o_154 (bg_dX2_read_86 20 154 rfl) (bg_dX2_read_86 21 0 rfl) (bg_dX2_read_86 22 45 rfl) (by decide +kernel)
theorem dX2_read_109 : decode cX2_read 109 = .ok (.aload_n 0, 1) := o_42 (bg_dX2_read_86 23 42 rfl)
theorem dX2_read_110 : decode cX2_read 110 = .ok (.getfield 23, 3) := o_180 (bg_dX2_read_86 24 180 rfl) (bg_dX2_read_86 25 0 rfl) (bg_dX2_read_86 26 23 rfl)
theorem dX2_read_113 : decode cX2_read 113 = .ok (.iconst 0, 1) := o_3 (bg_dX2_read_86 27 3 rfl)
theorem dX2_read_114 : decode cX2_read 114 = .ok (.aload_n 0, 1) := o_42 (bg_dX2_read_86 28 42 rfl)
theorem dX2_read_115 : decode cX2_read 115 = .ok (.getfield 15, 3) := o_180 (bg_dX2_read_86 29 180 rfl) (bg_dX2_read_86 30 0 rfl) (bg_dX2_read_86 31 15 rfl)
theorem dX2_read_118 : decode cX2_read 118 = .ok (.getfield 29, 3) := o_180 (bg_dX2_read_86 32 180 rfl) (bg_dX2_read_86 33 0 rfl) (bg_dX2_read_86 34 29 rfl)
theorem bg_dX2_read_121 : bysAt cX2_read 121 [3, 42, 180, 0, 23, 190, 184, 0, 34, 42, 180, 0, 26, 3, 42, 180, 0, 15, 180, 0, 40, 3, 42, 180, 0, 26] := bysAt_of (by decide +kernel)
theorem dX2_read_121 : decode cX2_read 121 = .ok (.iconst 0, 1) := o_3 (bg_dX2_read_121 0 3 rfl)
theorem dX2_read_122 : decode cX2_read 122 = .ok (.aload_n 0, 1) := o_42 (bg_dX2_read_121 1 42 rfl)
theorem dX2_read_123 : decode cX2_read 123 = .ok (.getfield 23, 3) := o_180 (bg_dX2_read_121 2 180 rfl) (bg_dX2_read_121 3 0 rfl) (bg_dX2_read_121 4 23 rfl)
theorem dX2_read_126 : decode cX2_read 126 = .ok (.arraylength, 1) := o_190 (bg_dX2_read_121 5 190 rfl)
theorem dX2_read_127 : decode cX2_read 127 = .ok (.invokestatic 34, 3) := o_184 (bg_dX2_read_121 6 184 rfl) (bg_dX2_read_121 7 0 rfl) (bg_dX2_read_121 8 34 rfl)
theorem dX2_read_130 : decode cX2_read 130 = .ok (.aload_n 0, 1) := o_42 (bg_dX2_read_121 9 42 rfl)
theorem dX2_read_131 : decode cX2_read 131 = .ok (.getfield 26, 3) := o_180 (bg_dX2_read_121 10 180 rfl) (bg_dX2_read_121 11 0 rfl) (bg_dX2_read_121 12 26 rfl)
theorem dX2_read_134 : decode cX2_read 134 = .ok (.iconst 0, 1) := o_3 (bg_dX2_read_121 13 3 rfl)
theorem dX2_read_135 : decode cX2_read 135 = .ok (.aload_n 0, 1) := o_42 (bg_dX2_read_121 14 42 rfl)
theorem dX2_read_136 : decode cX2_read 136 = .ok (.getfield 15, 3) := o_180 (bg_dX2_read_121 15 180 rfl) (bg_dX2_read_121 16 0 rfl) (bg_dX2_read_121 17 15 rfl)
theorem dX2_read_139 : decode cX2_read 139 = .ok (.getfield 40, 3) := o_180 (bg_dX2_read_121 18 180 rfl) (bg_dX2_read_121 19 0 rfl) (bg_dX2_read_121 20 40 rfl)
theorem dX2_read_142 : decode cX2_read 142 = .ok (.iconst 0, 1) := o_3 (bg_dX2_read_121 21 3 rfl)
theorem dX2_read_143 : decode cX2_read 143 = .ok (.aload_n 0, 1) := o_42 (bg_dX2_read_121 22 42 rfl)
theorem dX2_read_144 : decode cX2_read 144 = .ok (.getfield 26, 3) := o_180 (bg_dX2_read_121 23 180 rfl) (bg_dX2_read_121 24 0 rfl) (bg_dX2_read_121 25 26 rfl)
theorem bg_dX2_read_147 : bysAt cX2_read 147 [190, 184, 0, 34, 27, 172] := bysAt_of (by decide +kernel)
theorem dX2_read_147 : decode cX2_read 147 = .ok (.arraylength, 1) := o_190 (bg_dX2_read_147 0 190 rfl)
theorem dX2_read_148 : decode cX2_read 148 = .ok (.invokestatic 34, 3) := o_184 (bg_dX2_read_147 1 184 rfl) (bg_dX2_read_147 2 0 rfl) (bg_dX2_read_147 3 34 rfl)
theorem dX2_read_151 : decode cX2_read 151 = .ok (.iload_n 1, 1) := o_27 (bg_dX2_read_147 4 27 rfl)
theorem dX2_read_152 : decode cX2_read 152 = .ok (.ireturn, 1) := o_172 (bg_dX2_read_147 5 172 rfl)
theorem bg_dX2_readBridge_0 : bysAt cX2_readBridge 0 [42, 4, 182, 0, 106, 42, 180, 0, 9, 3, 42, 180, 0, 15, 180, 0, 29, 3, 46, 4, 100, 182, 0, 109] := bysAt_of (by decide +kernel)
theorem dX2_readBridge_0 : decode cX2_readBridge 0 = .ok (.aload_n 0, 1) := o_42 (bg_dX2_readBridge_0 0 42 rfl)
theorem dX2_readBridge_1 : decode cX2_readBridge 1 = .ok (.iconst 1, 1) := o_4 (bg_dX2_readBridge_0 1 4 rfl)
theorem dX2_readBridge_2 : decode cX2_readBridge 2 = .ok (.invokevirtual 106, 3) := o_182 (bg_dX2_readBridge_0 2 182 rfl) (bg_dX2_readBridge_0 3 0 rfl) (bg_dX2_readBridge_0 4 106 rfl)
theorem dX2_readBridge_5 : decode cX2_readBridge 5 = .ok (.aload_n 0, 1) := o_42 (bg_dX2_readBridge_0 5 42 rfl)
theorem dX2_readBridge_6 : decode cX2_readBridge 6 = .ok (.getfield 9, 3) := o_180 (bg_dX2_readBridge_0 6 180 rfl) (bg_dX2_readBridge_0 7 0 rfl) (bg_dX2_readBridge_0 8 9 rfl)
theorem dX2_readBridge_9 : decode cX2_readBridge 9 = .ok (.iconst 0, 1) := o_3 (bg_dX2_readBridge_0 9 3 rfl)
theorem dX2_readBridge_10 : decode cX2_readBridge 10 = .ok (.aload_n 0, 1) := o_42 (bg_dX2_readBridge_0 10 42 rfl)
theorem dX2_readBridge_11 : decode cX2_readBridge 11 = .ok (.getfield 15, 3) := o_180 (bg_dX2_readBridge_0 11 180 rfl) (bg_dX2_readBridge_0 12 0 rfl) (bg_dX2_readBridge_0 13 15 rfl)
theorem dX2_readBridge_14 : decode cX2_readBridge 14 = .ok (.getfield 29, 3) := o_180 (bg_dX2_readBridge_0 14 180 rfl) (bg_dX2_readBridge_0 15 0 rfl) (bg_dX2_readBridge_0 16 29 rfl)
theorem dX2_readBridge_17 : decode cX2_readBridge 17 = .ok (.iconst 0, 1) := o_3 (bg_dX2_readBridge_0 17 3 rfl)
theorem dX2_readBridge_18 : decode cX2_readBridge 18 = .ok (.iaload, 1) := o_46 (bg_dX2_readBridge_0 18 46 rfl)
theorem dX2_readBridge_19 : decode cX2_readBridge 19 = .ok (.iconst 1, 1) := o_4 (bg_dX2_readBridge_0 19 4 rfl)
theorem dX2_readBridge_20 : decode cX2_readBridge 20 = .ok (.isub, 1) := o_100 (bg_dX2_readBridge_0 20 100 rfl)
theorem dX2_readBridge_21 : decode cX2_readBridge 21 = .ok (.invokevirtual 109, 3) := o_182 (bg_dX2_readBridge_0 21 182 rfl) (bg_dX2_readBridge_0 22 0 rfl) (bg_dX2_readBridge_0 23 109 rfl)
theorem bg_dX2_readBridge_24 : bysAt cX2_readBridge 24 [60, 42, 18, 137, 3, 8, 182, 0, 119, 61, 42, 18, 139, 3, 16, 60, 182, 0, 119, 62, 42] := bysAt_of (by decide +kernel)
theorem dX2_readBridge_24 : decode cX2_readBridge 24 = .ok (.istore_n 1, 1) := o_60 (bg_dX2_readBridge_24 0 60 rfl)
theorem dX2_readBridge_25 : decode cX2_readBridge 25 = .ok (.aload_n 0, 1) := o_42 (bg_dX2_readBridge_24 1 42 rfl)
theorem dX2_readBridge_26 : decode cX2_readBridge 26 = .ok (.ldc 137, 2) := o_18 (bg_dX2_readBridge_24 2 18 rfl) (bg_dX2_readBridge_24 3 137 rfl)
theorem dX2_readBridge_28 : decode cX2_readBridge 28 = .ok (.iconst 0, 1) := o_3 (bg_dX2_readBridge_24 4 3 rfl)
theorem dX2_readBridge_29 : decode cX2_readBridge 29 = .ok (.iconst 5, 1) := o_8 (bg_dX2_readBridge_24 5 8 rfl)
theorem dX2_readBridge_30 : decode cX2_readBridge 30 = .ok (.invokevirtual 119, 3) := o_182 (bg_dX2_readBridge_24 6 182 rfl) (bg_dX2_readBridge_24 7 0 rfl) (bg_dX2_readBridge_24 8 119 rfl)
theorem dX2_readBridge_33 : decode cX2_readBridge 33 = .ok (.istore_n 2, 1) := o_61 (bg_dX2_readBridge_24 9 61 rfl)
theorem dX2_readBridge_34 : decode cX2_readBridge 34 = .ok (.aload_n 0, 1) := o_42 (bg_dX2_readBridge_24 10 42 rfl)
theorem dX2_readBridge_35 : decode cX2_readBridge 35 = .ok (.ldc 139, 2) := o_18 (bg_dX2_readBridge_24 11 18 rfl) (bg_dX2_readBridge_24 12 139 rfl)
theorem dX2_readBridge_37 : decode cX2_readBridge 37 = .ok (.iconst 0, 1) := o_3 (bg_dX2_readBridge_24 13 3 rfl)
theorem dX2_readBridge_38 : decode cX2_readBridge 38 = .ok (.bipush 60, 2) := o_16 (bg_dX2_readBridge_24 14 16 rfl) (bg_dX2_readBridge_24 15 60 rfl) (by decide +kernel)
theorem dX2_readBridge_40 : decode cX2_readBridge 40 = .ok (.invokevirtual 119, 3) := o_182 (bg_dX2_readBridge_24 16 182 rfl) (bg_dX2_readBridge_24 17 0 rfl) (bg_dX2_readBridge_24 18 119 rfl)
theorem dX2_readBridge_43 : decode cX2_readBridge 43 = .ok (.istore_n 3, 1) := o_62 (bg_dX2_readBridge_24 19 62 rfl)
theorem dX2_readBridge_44 : decode cX2_readBridge 44 = .ok (.aload_n 0, 1) := o_42 (bg_dX2_readBridge_24 20 42 rfl)
theorem bg_dX2_readBridge_45 : bysAt cX2_readBridge 45 [18, 141, 4, 16, 99, 182, 0, 119, 54, 4, 42, 18, 143, 4, 17, 3, 231, 182, 0, 119, 54, 5, 3, 54, 6, 3] := bysAt_of (by decide +kernel)
theorem dX2_readBridge_45 : decode cX2_readBridge 45 = .ok (.ldc 141, 2) := o_18 (bg_dX2_readBridge_45 0 18 rfl) (bg_dX2_readBridge_45 1 141 rfl)
theorem dX2_readBridge_47 : decode cX2_readBridge 47 = .ok (.iconst 1, 1) := o_4 (bg_dX2_readBridge_45 2 4 rfl)
theorem dX2_readBridge_48 : decode cX2_readBridge 48 = .ok (.bipush 99, 2) := o_16 (bg_dX2_readBridge_45 3 16 rfl) (bg_dX2_readBridge_45 4 99 rfl) (by decide +kernel)
theorem dX2_readBridge_50 : decode cX2_readBridge 50 = .ok (.invokevirtual 119, 3) := o_182 (bg_dX2_readBridge_45 5 182 rfl) (bg_dX2_readBridge_45 6 0 rfl) (bg_dX2_readBridge_45 7 119 rfl)
theorem dX2_readBridge_53 : decode cX2_readBridge 53 = .ok (.istore 4, 2) := o_54 (bg_dX2_readBridge_45 8 54 rfl) (bg_dX2_readBridge_45 9 4 rfl)
theorem dX2_readBridge_55 : decode cX2_readBridge 55 = .ok (.aload_n 0, 1) := o_42 (bg_dX2_readBridge_45 10 42 rfl)
theorem dX2_readBridge_56 : decode cX2_readBridge 56 = .ok (.ldc 143, 2) := o_18 (bg_dX2_readBridge_45 11 18 rfl) (bg_dX2_readBridge_45 12 143 rfl)
theorem dX2_readBridge_58 : decode cX2_readBridge 58 = .ok (.iconst 1, 1) := o_4 (bg_dX2_readBridge_45 13 4 rfl)
theorem dX2_readBridge_59 : decode cX2_readBridge 59 = .ok (.sipush 999, 3) := o_17 (bg_dX2_readBridge_45 14 17 rfl) (bg_dX2_readBridge_45 15 3 rfl) (bg_dX2_readBridge_45 16 231 rfl) (by decide +kernel)
theorem dX2_readBridge_62 : decode cX2_readBridge 62 = .ok (.invokevirtual 119, 3) := o_182 (bg_dX2_readBridge_45 17 182 rfl) (bg_dX2_readBridge_45 18 0 rfl) (bg_dX2_readBridge_45 19 119 rfl)
theorem dX2_readBridge_65 : decode cX2_readBridge 65 = .ok (.istore 5, 2) := o_54 (bg_dX2_readBridge_45 20 54 rfl) (bg_dX2_readBridge_45 21 5 rfl)
theorem dX2_readBridge_67 : decode cX2_readBridge 67 = .ok (.iconst 0, 1) := o_3 (bg_dX2_readBridge_45 22 3 rfl)
theorem dX2_readBridge_68 : decode cX2_readBridge 68 = .ok (.istore 6, 2) := o_54 (bg_dX2_readBridge_45 23 54 rfl) (bg_dX2_readBridge_45 24 6 rfl)
theorem dX2_readBridge_70 : decode cX2_readBridge 70 = .ok (.iconst 0, 1) := o_3 (bg_dX2_readBridge_45 25 3 rfl)
theorem bg_dX2_readBridge_71 : bysAt cX2_readBridge 71 [54, 7, 42, 180, 0, 9, 18, 145, 182, 0, 87, 153, 0, 29, 42, 180, 0, 9, 3, 17, 3, 231, 182, 0, 109, 54, 6, 42, 180, 0, 9] := bysAt_of (by decide +kernel)
theorem dX2_readBridge_71 : decode cX2_readBridge 71 = .ok (.istore 7, 2) := o_54 (bg_dX2_readBridge_71 0 54 rfl) (bg_dX2_readBridge_71 1 7 rfl)
theorem dX2_readBridge_73 : decode cX2_readBridge 73 = .ok (.aload_n 0, 1) := o_42 (bg_dX2_readBridge_71 2 42 rfl)
theorem dX2_readBridge_74 : decode cX2_readBridge 74 = .ok (.getfield 9, 3) := o_180 (bg_dX2_readBridge_71 3 180 rfl) (bg_dX2_readBridge_71 4 0 rfl) (bg_dX2_readBridge_71 5 9 rfl)
theorem dX2_readBridge_77 : decode cX2_readBridge 77 = .ok (.ldc 145, 2) := o_18 (bg_dX2_readBridge_71 6 18 rfl) (bg_dX2_readBridge_71 7 145 rfl)
theorem dX2_readBridge_79 : decode cX2_readBridge 79 = .ok (.invokevirtual 87, 3) := o_182 (bg_dX2_readBridge_71 8 182 rfl) (bg_dX2_readBridge_71 9 0 rfl) (bg_dX2_readBridge_71 10 87 rfl)
theorem dX2_readBridge_82 : decode cX2_readBridge 82 = .ok (.ifCond .eq 29, 3) := o_153 (bg_dX2_readBridge_71 11 153 rfl) (bg_dX2_readBridge_71 12 0 rfl) (bg_dX2_readBridge_71 13 29 rfl) (by decide +kernel)
theorem dX2_readBridge_85 : decode cX2_readBridge 85 = .ok (.aload_n 0, 1) := o_42 (bg_dX2_readBridge_71 14 42 rfl)
theorem dX2_readBridge_86 : decode cX2_readBridge 86 = .ok (.getfield 9, 3) := o_180 (bg_dX2_readBridge_71 15 180 rfl) (bg_dX2_readBridge_71 16 0 rfl) (bg_dX2_readBridge_71 17 9 rfl)
theorem dX2_readBridge_89 : decode cX2_readBridge 89 = .ok (.iconst 0, 1) := o_3 (bg_dX2_readBridge_71 18 3 rfl)
theorem dX2_readBridge_90 : decode cX2_readBridge 90 = .ok (.sipush 999, 3) := o_17 (bg_dX2_readBridge_71 19 17 rfl) (bg_dX2_readBridge_71 20 3 rfl) (bg_dX2_readBridge_71 21 231 rfl) (by decide +kernel)
theorem dX2_readBridge_93 : decode cX2_readBridge 93 = .ok (.invokevirtual 109, 3) := o_182 (bg_dX2_readBridge_71 22 182 rfl) (bg_dX2_readBridge_71 23 0 rfl) (bg_dX2_readBridge_71 24 109 rfl)
theorem dX2_readBridge_96 : decode cX2_readBridge 96 = .ok (.istore 6, 2) := o_54 (bg_dX2_readBridge_71 25 54 rfl) (bg_dX2_readBridge_71 26 6 rfl)
theorem dX2_readBridge_98 : decode cX2_readBridge 98 = .ok (.aload_n 0, 1) := o_42 (bg_dX2_readBridge_71 27 42 rfl)
theorem dX2_readBridge_99 : decode cX2_readBridge 99 = .ok (.getfield 9, 3) := o_180 (bg_dX2_readBridge_71 28 180 rfl) (bg_dX2_readBridge_71 29 0 rfl) (bg_dX2_readBridge_71 30 9 rfl)
theorem bg_dX2_readBridge_102 : bysAt cX2_readBridge 102 [3, 17, 3, 231, 182, 0, 109, 54, 7, 42, 180, 0, 9, 182, 0, 51, 153, 0, 28, 42, 180, 0, 15, 42, 180, 0, 15, 27, 28] := bysAt_of (by decide +kernel)
theorem dX2_readBridge_102 : decode cX2_readBridge 102 = .ok (.iconst 0, 1) := o_3 (bg_dX2_readBridge_102 0 3 rfl)
theorem dX2_readBridge_103 : decode cX2_readBridge 103 = .ok (.sipush 999, 3) := o_17 (bg_dX2_readBridge_102 1 17 rfl) (bg_dX2_readBridge_102 2 3 rfl) (bg_dX2_readBridge_102 3 231 rfl) (by decide +kernel)
theorem dX2_readBridge_106 : decode cX2_readBridge 106 = .ok (.invokevirtual 109, 3) := o_182 (bg_dX2_readBridge_102 4 182 rfl) (bg_dX2_readBridge_102 5 0 rfl) (bg_dX2_readBridge_102 6 109 rfl)
theorem dX2_readBridge_109 : decode cX2_readBridge 109 = .ok (.istore 7, 2) := o_54 (bg_dX2_readBridge_102 7 54 rfl) (bg_dX2_readBridge_102 8 7 rfl)
theorem dX2_readBridge_111 : decode cX2_readBridge 111 = .ok (.aload_n 0, 1) := o_42 (bg_dX2_readBridge_102 9 42 rfl)
theorem dX2_readBridge_112 : decode cX2_readBridge 112 = .ok (.getfield 9, 3) := o_180 (bg_dX2_readBridge_102 10 180 rfl) (bg_dX2_readBridge_102 11 0 rfl) (bg_dX2_readBridge_102 12 9 rfl)
theorem dX2_readBridge_115 : decode cX2_readBridge 115 = .ok (.invokevirtual 51, 3) := o_182 (bg_dX2_readBridge_102 13 182 rfl) (bg_dX2_readBridge_102 14 0 rfl) (bg_dX2_readBridge_102 15 51 rfl)
theorem dX2_readBridge_118 : decode cX2_readBridge 118 = .ok (.ifCond .eq 28, 3) := o_153 (bg_dX2_readBridge_102 16 153 rfl) (bg_dX2_readBridge_102 17 0 rfl) (bg_dX2_readBridge_102 18 28 rfl) (by decide +kernel)
theorem dX2_readBridge_121 : decode cX2_readBridge 121 = .ok (.aload_n 0, 1) := o_42 (bg_dX2_readBridge_102 19 42 rfl)
theorem dX2_readBridge_122 : decode cX2_readBridge 122 = .ok (.getfield 15, 3) := o_180 (bg_dX2_readBridge_102 20 180 rfl) (bg_dX2_readBridge_102 21 0 rfl) (bg_dX2_readBridge_102 22 15 rfl)
theorem dX2_readBridge_125 : decode cX2_readBridge 125 = .ok (.aload_n 0, 1) := o_42 (bg_dX2_readBridge_102 23 42 rfl)
theorem dX2_readBridge_126 : decode cX2_readBridge 126 = .ok (.getfield 15, 3) := o_180 (bg_dX2_readBridge_102 24 180 rfl) (bg_dX2_readBridge_102 25 0 rfl) (bg_dX2_readBridge_102 26 15 rfl)
theorem dX2_readBridge_129 : decode cX2_readBridge 129 = .ok (.iload_n 1, 1) := o_27 (bg_dX2_readBridge_102 27 27 rfl)
theorem dX2_readBridge_130 : decode cX2_readBridge 130 = .ok (.iload_n 2, 1) := o_28 (bg_dX2_readBridge_102 28 28 rfl)
theorem bg_dX2_readBridge_131 : bysAt cX2_readBridge 131 [29, 21, 4, 21, 5, 182, 0, 147, 21, 6, 21, 7, 182, 0, 151, 177] := bysAt_of (by decide +kernel)
theorem dX2_readBridge_131 : decode cX2_readBridge 131 = .ok (.iload_n 3, 1) := o_29 (bg_dX2_readBridge_131 0 29 rfl)
theorem dX2_readBridge_132 : decode cX2_readBridge 132 = .ok (.iload 4, 2) := o_21 (bg_dX2_readBridge_131 1 21 rfl) (bg_dX2_readBridge_131 2 4 rfl)
theorem dX2_readBridge_134 : decode cX2_readBridge 134 = .ok (.iload 5, 2) := o_21 (bg_dX2_readBridge_131 3 21 rfl) (bg_dX2_readBridge_131 4 5 rfl)
theorem dX2_readBridge_136 : decode cX2_readBridge 136 = .ok (.invokevirtual 147, 3) := o_182 (bg_dX2_readBridge_131 5 182 rfl) (bg_dX2_readBridge_131 6 0 rfl) (bg_dX2_readBridge_131 7 147 rfl)
theorem dX2_readBridge_139 : decode cX2_readBridge 139 = .ok (.iload 6, 2) := o_21 (bg_dX2_readBridge_131 8 21 rfl) (bg_dX2_readBridge_131 9 6 rfl)
theorem dX2_readBridge_141 : decode cX2_readBridge 141 = .ok (.iload 7, 2) := o_21 (bg_dX2_readBridge_131 10 21 rfl) (bg_dX2_readBridge_131 11 7 rfl)
theorem dX2_readBridge_143 : decode cX2_readBridge 143 = .ok (.invokevirtual 151, 3) := o_182 (bg_dX2_readBridge_131 12 182 rfl) (bg_dX2_readBridge_131 13 0 rfl) (bg_dX2_readBridge_131 14 151 rfl)
theorem dX2_readBridge_146 : decode cX2_readBridge 146 = .ok (.return_, 1) := o_177 (bg_dX2_readBridge_131 15 177 rfl)
theorem bg_dX2_readPart_0 : bysAt cX2_readPart 0 [42, 6, 182, 0, 106, 42, 180, 0, 9, 4, 16, 99, 182, 0, 109, 60, 42, 180, 0, 9, 3, 16, 99, 182, 0, 109] := bysAt_of (by decide +kernel)
theorem dX2_readPart_0 : decode cX2_readPart 0 = .ok (.aload_n 0, 1) := o_42 (bg_dX2_readPart_0 0 42 rfl)
theorem dX2_readPart_1 : decode cX2_readPart 1 = .ok (.iconst 3, 1) := o_6 (bg_dX2_readPart_0 1 6 rfl)
theorem dX2_readPart_2 : decode cX2_readPart 2 = .ok (.invokevirtual 106, 3) := o_182 (bg_dX2_readPart_0 2 182 rfl) (bg_dX2_readPart_0 3 0 rfl) (bg_dX2_readPart_0 4 106 rfl)
theorem dX2_readPart_5 : decode cX2_readPart 5 = .ok (.aload_n 0, 1) := o_42 (bg_dX2_readPart_0 5 42 rfl)
theorem dX2_readPart_6 : decode cX2_readPart 6 = .ok (.getfield 9, 3) := o_180 (bg_dX2_readPart_0 6 180 rfl) (bg_dX2_readPart_0 7 0 rfl) (bg_dX2_readPart_0 8 9 rfl)
theorem dX2_readPart_9 : decode cX2_readPart 9 = .ok (.iconst 1, 1) := o_4 (bg_dX2_readPart_0 9 4 rfl)
theorem dX2_readPart_10 : decode cX2_readPart 10 = .ok (.bipush 99, 2) := o_16 (bg_dX2_readPart_0 10 16 rfl) (bg_dX2_readPart_0 11 99 rfl) (by decide +kernel)
theorem dX2_readPart_12 : decode cX2_readPart 12 = .ok (.invokevirtual 109, 3) := o_182 (bg_dX2_readPart_0 12 182 rfl) (bg_dX2_readPart_0 13 0 rfl) (bg_dX2_readPart_0 14 109 rfl)
theorem dX2_readPart_15 : decode cX2_readPart 15 = .ok (.istore_n 1, 1) := o_60 (bg_dX2_readPart_0 15 60 rfl)
theorem dX2_readPart_16 : decode cX2_readPart 16 = .ok (.aload_n 0, 1) := o_42 (bg_dX2_readPart_0 16 42 rfl)
theorem dX2_readPart_17 : decode cX2_readPart 17 = .ok (.getfield 9, 3) := o_180 (bg_dX2_readPart_0 17 180 rfl) (bg_dX2_readPart_0 18 0 rfl) (bg_dX2_readPart_0 19 9 rfl)
theorem dX2_readPart_20 : decode cX2_readPart 20 = .ok (.iconst 0, 1) := o_3 (bg_dX2_readPart_0 20 3 rfl)
theorem dX2_readPart_21 : decode cX2_readPart 21 = .ok (.bipush 99, 2) := o_16 (bg_dX2_readPart_0 21 16 rfl) (bg_dX2_readPart_0 22 99 rfl) (by decide +kernel)
theorem dX2_readPart_23 : decode cX2_readPart 23 = .ok (.invokevirtual 109, 3) := o_182 (bg_dX2_readPart_0 23 182 rfl) (bg_dX2_readPart_0 24 0 rfl) (bg_dX2_readPart_0 25 109 rfl)
theorem bg_dX2_readPart_26 : bysAt cX2_readPart 26 [61, 42, 180, 0, 9, 182, 0, 51, 153, 0, 13, 42, 180, 0, 15, 27, 28, 182, 0, 163, 87, 177] := bysAt_of (by decide +kernel)
theorem dX2_readPart_26 : decode cX2_readPart 26 = .ok (.istore_n 2, 1) := o_61 (bg_dX2_readPart_26 0 61 rfl)
theorem dX2_readPart_27 : decode cX2_readPart 27 = .ok (.aload_n 0, 1) := o_42 (bg_dX2_readPart_26 1 42 rfl)
theorem dX2_readPart_28 : decode cX2_readPart 28 = .ok (.getfield 9, 3) := o_180 (bg_dX2_readPart_26 2 180 rfl) (bg_dX2_readPart_26 3 0 rfl) (bg_dX2_readPart_26 4 9 rfl)
theorem dX2_readPart_31 : decode cX2_readPart 31 = .ok (.invokevirtual 51, 3) := o_182 (bg_dX2_readPart_26 5 182 rfl) (bg_dX2_readPart_26 6 0 rfl) (bg_dX2_readPart_26 7 51 rfl)
theorem dX2_readPart_34 : decode cX2_readPart 34 = .ok (.ifCond .eq 13, 3) := o_153 (bg_dX2_readPart_26 8 153 rfl) (bg_dX2_readPart_26 9 0 rfl) (bg_dX2_readPart_26 10 13 rfl) (by decide +kernel)
theorem dX2_readPart_37 : decode cX2_readPart 37 = .ok (.aload_n 0, 1) := o_42 (bg_dX2_readPart_26 11 42 rfl)
theorem dX2_readPart_38 : decode cX2_readPart 38 = .ok (.getfield 15, 3) := o_180 (bg_dX2_readPart_26 12 180 rfl) (bg_dX2_readPart_26 13 0 rfl) (bg_dX2_readPart_26 14 15 rfl)
theorem dX2_readPart_41 : decode cX2_readPart 41 = .ok (.iload_n 1, 1) := o_27 (bg_dX2_readPart_26 15 27 rfl)
theorem dX2_readPart_42 : decode cX2_readPart 42 = .ok (.iload_n 2, 1) := o_28 (bg_dX2_readPart_26 16 28 rfl)
theorem dX2_readPart_43 : decode cX2_readPart 43 = .ok (.invokevirtual 163, 3) := o_182 (bg_dX2_readPart_26 17 182 rfl) (bg_dX2_readPart_26 18 0 rfl) (bg_dX2_readPart_26 19 163 rfl)
theorem dX2_readPart_46 : decode cX2_readPart 46 = .ok (.pop, 1) := o_87 (bg_dX2_readPart_26 20 87 rfl)
theorem dX2_readPart_47 : decode cX2_readPart 47 = .ok (.return_, 1) := o_177 (bg_dX2_readPart_26 21 177 rfl)
theorem bg_dX2_readRoad_0 : bysAt cX2_readRoad 0 [42, 3, 182, 0, 106, 42, 180, 0, 9, 3, 16, 15, 182, 0, 109, 60, 42, 180, 0, 9, 182, 0, 113, 27, 160, 0, 10] := bysAt_of (by decide +kernel)
theorem dX2_readRoad_0 : decode cX2_readRoad 0 = .ok (.aload_n 0, 1) := o_42 (bg_dX2_readRoad_0 0 42 rfl)
theorem dX2_readRoad_1 : decode cX2_readRoad 1 = .ok (.iconst 0, 1) := o_3 (bg_dX2_readRoad_0 1 3 rfl)
theorem dX2_readRoad_2 : decode cX2_readRoad 2 = .ok (.invokevirtual 106, 3) := o_182 (bg_dX2_readRoad_0 2 182 rfl) (bg_dX2_readRoad_0 3 0 rfl) (bg_dX2_readRoad_0 4 106 rfl)
theorem dX2_readRoad_5 : decode cX2_readRoad 5 = .ok (.aload_n 0, 1) := o_42 (bg_dX2_readRoad_0 5 42 rfl)
theorem dX2_readRoad_6 : decode cX2_readRoad 6 = .ok (.getfield 9, 3) := o_180 (bg_dX2_readRoad_0 6 180 rfl) (bg_dX2_readRoad_0 7 0 rfl) (bg_dX2_readRoad_0 8 9 rfl)
theorem dX2_readRoad_9 : decode cX2_readRoad 9 = .ok (.iconst 0, 1) := o_3 (bg_dX2_readRoad_0 9 3 rfl)
theorem dX2_readRoad_10 : decode cX2_readRoad 10 = .ok (.bipush 15, 2) := o_16 (bg_dX2_readRoad_0 10 16 rfl) (bg_dX2_readRoad_0 11 15 rfl) (by decide +kernel)
theorem dX2_readRoad_12 : decode cX2_readRoad 12 = .ok (.invokevirtual 109, 3) := o_182 (bg_dX2_readRoad_0 12 182 rfl) (bg_dX2_readRoad_0 13 0 rfl) (bg_dX2_readRoad_0 14 109 rfl)
theorem dX2_readRoad_15 : decode cX2_readRoad 15 = .ok (.istore_n 1, 1) := o_60 (bg_dX2_readRoad_0 15 60 rfl)
theorem dX2_readRoad_16 : decode cX2_readRoad 16 = .ok (.aload_n 0, 1) := o_42 (bg_dX2_readRoad_0 16 42 rfl)
theorem dX2_readRoad_17 : decode cX2_readRoad 17 = .ok (.getfield 9, 3) := o_180 (bg_dX2_readRoad_0 17 180 rfl) (bg_dX2_readRoad_0 18 0 rfl) (bg_dX2_readRoad_0 19 9 rfl)
theorem dX2_readRoad_20 : decode cX2_readRoad 20 = .ok (.invokevirtual 113, 3) := o_182 (bg_dX2_readRoad_0 20 182 rfl) (bg_dX2_readRoad_0 21 0 rfl) (bg_dX2_readRoad_0 22 113 rfl)
theorem dX2_readRoad_23 : decode cX2_readRoad 23 = .ok (.iload_n 1, 1) := o_27 (bg_dX2_readRoad_0 23 27 rfl)
theorem dX2_readRoad_24 : decode cX2_readRoad 24 = .ok (.if_icmp .ne 10, 3) := o_160 (bg_dX2_readRoad_0 24 160 rfl) (bg_dX2_readRoad_0 25 0 rfl) (bg_dX2_readRoad_0 26 10 rfl) (by decide +kernel)
theorem bg_dX2_readRoad_27 : bysAt cX2_readRoad 27 [42, 180, 0, 9, 182, 0, 96, 42, 180, 0, 9, 3, 16, 15, 182, 0, 109, 61, 42, 18, 117, 4, 16, 60, 182, 0, 119] := bysAt_of (by decide +kernel)
theorem dX2_readRoad_27 : decode cX2_readRoad 27 = .ok (.aload_n 0, 1) := o_42 (bg_dX2_readRoad_27 0 42 rfl)
theorem dX2_readRoad_28 : decode cX2_readRoad 28 = .ok (.getfield 9, 3) := o_180 (bg_dX2_readRoad_27 1 180 rfl) (bg_dX2_readRoad_27 2 0 rfl) (bg_dX2_readRoad_27 3 9 rfl)
theorem dX2_readRoad_31 : decode cX2_readRoad 31 = .ok (.invokevirtual 96, 3) := o_182 (bg_dX2_readRoad_27 4 182 rfl) (bg_dX2_readRoad_27 5 0 rfl) (bg_dX2_readRoad_27 6 96 rfl)
theorem dX2_readRoad_34 : decode cX2_readRoad 34 = .ok (.aload_n 0, 1) := o_42 (bg_dX2_readRoad_27 7 42 rfl)
theorem dX2_readRoad_35 : decode cX2_readRoad 35 = .ok (.getfield 9, 3) := o_180 (bg_dX2_readRoad_27 8 180 rfl) (bg_dX2_readRoad_27 9 0 rfl) (bg_dX2_readRoad_27 10 9 rfl)
theorem dX2_readRoad_38 : decode cX2_readRoad 38 = .ok (.iconst 0, 1) := o_3 (bg_dX2_readRoad_27 11 3 rfl)
theorem dX2_readRoad_39 : decode cX2_readRoad 39 = .ok (.bipush 15, 2) := o_16 (bg_dX2_readRoad_27 12 16 rfl) (bg_dX2_readRoad_27 13 15 rfl) (by decide +kernel)
theorem dX2_readRoad_41 : decode cX2_readRoad 41 = .ok (.invokevirtual 109, 3) := o_182 (bg_dX2_readRoad_27 14 182 rfl) (bg_dX2_readRoad_27 15 0 rfl) (bg_dX2_readRoad_27 16 109 rfl)
theorem dX2_readRoad_44 : decode cX2_readRoad 44 = .ok (.istore_n 2, 1) := o_61 (bg_dX2_readRoad_27 17 61 rfl)
theorem dX2_readRoad_45 : decode cX2_readRoad 45 = .ok (.aload_n 0, 1) := o_42 (bg_dX2_readRoad_27 18 42 rfl)
theorem dX2_readRoad_46 : decode cX2_readRoad 46 = .ok (.ldc 117, 2) := o_18 (bg_dX2_readRoad_27 19 18 rfl) (bg_dX2_readRoad_27 20 117 rfl)
theorem dX2_readRoad_48 : decode cX2_readRoad 48 = .ok (.iconst 1, 1) := o_4 (bg_dX2_readRoad_27 21 4 rfl)
theorem dX2_readRoad_49 : decode cX2_readRoad 49 = .ok (.bipush 60, 2) := o_16 (bg_dX2_readRoad_27 22 16 rfl) (bg_dX2_readRoad_27 23 60 rfl) (by decide +kernel)
theorem dX2_readRoad_51 : decode cX2_readRoad 51 = .ok (.invokevirtual 119, 3) := o_182 (bg_dX2_readRoad_27 24 182 rfl) (bg_dX2_readRoad_27 25 0 rfl) (bg_dX2_readRoad_27 26 119 rfl)
theorem bg_dX2_readRoad_54 : bysAt cX2_readRoad 54 [62, 42, 18, 123, 3, 16, 9, 3, 182, 0, 125, 54, 4, 42, 18, 129, 4, 16, 99, 16, 99, 182, 0, 125] := bysAt_of (by decide +kernel)
theorem dX2_readRoad_54 : decode cX2_readRoad 54 = .ok (.istore_n 3, 1) := o_62 (bg_dX2_readRoad_54 0 62 rfl)
theorem dX2_readRoad_55 : decode cX2_readRoad 55 = .ok (.aload_n 0, 1) := o_42 (bg_dX2_readRoad_54 1 42 rfl)
theorem dX2_readRoad_56 : decode cX2_readRoad 56 = .ok (.ldc 123, 2) := o_18 (bg_dX2_readRoad_54 2 18 rfl) (bg_dX2_readRoad_54 3 123 rfl)
theorem dX2_readRoad_58 : decode cX2_readRoad 58 = .ok (.iconst 0, 1) := o_3 (bg_dX2_readRoad_54 4 3 rfl)
theorem dX2_readRoad_59 : decode cX2_readRoad 59 = .ok (.bipush 9, 2) := o_16 (bg_dX2_readRoad_54 5 16 rfl) (bg_dX2_readRoad_54 6 9 rfl) (by decide +kernel)
theorem dX2_readRoad_61 : decode cX2_readRoad 61 = .ok (.iconst 0, 1) := o_3 (bg_dX2_readRoad_54 7 3 rfl)
theorem dX2_readRoad_62 : decode cX2_readRoad 62 = .ok (.invokevirtual 125, 3) := o_182 (bg_dX2_readRoad_54 8 182 rfl) (bg_dX2_readRoad_54 9 0 rfl) (bg_dX2_readRoad_54 10 125 rfl)
theorem dX2_readRoad_65 : decode cX2_readRoad 65 = .ok (.istore 4, 2) := o_54 (bg_dX2_readRoad_54 11 54 rfl) (bg_dX2_readRoad_54 12 4 rfl)
theorem dX2_readRoad_67 : decode cX2_readRoad 67 = .ok (.aload_n 0, 1) := o_42 (bg_dX2_readRoad_54 13 42 rfl)
theorem dX2_readRoad_68 : decode cX2_readRoad 68 = .ok (.ldc 129, 2) := o_18 (bg_dX2_readRoad_54 14 18 rfl) (bg_dX2_readRoad_54 15 129 rfl)
theorem dX2_readRoad_70 : decode cX2_readRoad 70 = .ok (.iconst 1, 1) := o_4 (bg_dX2_readRoad_54 16 4 rfl)
theorem dX2_readRoad_71 : decode cX2_readRoad 71 = .ok (.bipush 99, 2) := o_16 (bg_dX2_readRoad_54 17 16 rfl) (bg_dX2_readRoad_54 18 99 rfl) (by decide +kernel)
theorem dX2_readRoad_73 : decode cX2_readRoad 73 = .ok (.bipush 99, 2) := o_16 (bg_dX2_readRoad_54 19 16 rfl) (bg_dX2_readRoad_54 20 99 rfl) (by decide +kernel)
theorem dX2_readRoad_75 : decode cX2_readRoad 75 = .ok (.invokevirtual 125, 3) := o_182 (bg_dX2_readRoad_54 21 182 rfl) (bg_dX2_readRoad_54 22 0 rfl) (bg_dX2_readRoad_54 23 125 rfl)
theorem bg_dX2_readRoad_78 : bysAt cX2_readRoad 78 [54, 5, 42, 18, 131, 3, 16, 15, 3, 182, 0, 125, 54, 6, 42, 180, 0, 9, 182, 0, 51, 153, 0, 20, 42, 180, 0, 15] := bysAt_of (by decide +kernel)
theorem dX2_readRoad_78 : decode cX2_readRoad 78 = .ok (.istore 5, 2) := o_54 (bg_dX2_readRoad_78 0 54 rfl) (bg_dX2_readRoad_78 1 5 rfl)
theorem dX2_readRoad_80 : decode cX2_readRoad 80 = .ok (.aload_n 0, 1) := o_42 (bg_dX2_readRoad_78 2 42 rfl)
theorem dX2_readRoad_81 : decode cX2_readRoad 81 = .ok (.ldc 131, 2) := o_18 (bg_dX2_readRoad_78 3 18 rfl) (bg_dX2_readRoad_78 4 131 rfl)
theorem dX2_readRoad_83 : decode cX2_readRoad 83 = .ok (.iconst 0, 1) := o_3 (bg_dX2_readRoad_78 5 3 rfl)
theorem dX2_readRoad_84 : decode cX2_readRoad 84 = .ok (.bipush 15, 2) := o_16 (bg_dX2_readRoad_78 6 16 rfl) (bg_dX2_readRoad_78 7 15 rfl) (by decide +kernel)
theorem dX2_readRoad_86 : decode cX2_readRoad 86 = .ok (.iconst 0, 1) := o_3 (bg_dX2_readRoad_78 8 3 rfl)
theorem dX2_readRoad_87 : decode cX2_readRoad 87 = .ok (.invokevirtual 125, 3) := o_182 (bg_dX2_readRoad_78 9 182 rfl) (bg_dX2_readRoad_78 10 0 rfl) (bg_dX2_readRoad_78 11 125 rfl)
theorem dX2_readRoad_90 : decode cX2_readRoad 90 = .ok (.istore 6, 2) := o_54 (bg_dX2_readRoad_78 12 54 rfl) (bg_dX2_readRoad_78 13 6 rfl)
theorem dX2_readRoad_92 : decode cX2_readRoad 92 = .ok (.aload_n 0, 1) := o_42 (bg_dX2_readRoad_78 14 42 rfl)
theorem dX2_readRoad_93 : decode cX2_readRoad 93 = .ok (.getfield 9, 3) := o_180 (bg_dX2_readRoad_78 15 180 rfl) (bg_dX2_readRoad_78 16 0 rfl) (bg_dX2_readRoad_78 17 9 rfl)
theorem dX2_readRoad_96 : decode cX2_readRoad 96 = .ok (.invokevirtual 51, 3) := o_182 (bg_dX2_readRoad_78 18 182 rfl) (bg_dX2_readRoad_78 19 0 rfl) (bg_dX2_readRoad_78 20 51 rfl)
theorem dX2_readRoad_99 : decode cX2_readRoad 99 = .ok (.ifCond .eq 20, 3) := o_153 (bg_dX2_readRoad_78 21 153 rfl) (bg_dX2_readRoad_78 22 0 rfl) (bg_dX2_readRoad_78 23 20 rfl) (by decide +kernel)
theorem dX2_readRoad_102 : decode cX2_readRoad 102 = .ok (.aload_n 0, 1) := o_42 (bg_dX2_readRoad_78 24 42 rfl)
theorem dX2_readRoad_103 : decode cX2_readRoad 103 = .ok (.getfield 15, 3) := o_180 (bg_dX2_readRoad_78 25 180 rfl) (bg_dX2_readRoad_78 26 0 rfl) (bg_dX2_readRoad_78 27 15 rfl)
theorem bg_dX2_readRoad_106 : bysAt cX2_readRoad 106 [27, 28, 29, 21, 4, 21, 5, 21, 6, 182, 0, 133, 87, 177] := bysAt_of (by decide +kernel)
theorem dX2_readRoad_106 : decode cX2_readRoad 106 = .ok (.iload_n 1, 1) := o_27 (bg_dX2_readRoad_106 0 27 rfl)
theorem dX2_readRoad_107 : decode cX2_readRoad 107 = .ok (.iload_n 2, 1) := o_28 (bg_dX2_readRoad_106 1 28 rfl)
theorem dX2_readRoad_108 : decode cX2_readRoad 108 = .ok (.iload_n 3, 1) := o_29 (bg_dX2_readRoad_106 2 29 rfl)
theorem dX2_readRoad_109 : decode cX2_readRoad 109 = .ok (.iload 4, 2) := o_21 (bg_dX2_readRoad_106 3 21 rfl) (bg_dX2_readRoad_106 4 4 rfl)
theorem dX2_readRoad_111 : decode cX2_readRoad 111 = .ok (.iload 5, 2) := o_21 (bg_dX2_readRoad_106 5 21 rfl) (bg_dX2_readRoad_106 6 5 rfl)
theorem dX2_readRoad_113 : decode cX2_readRoad 113 = .ok (.iload 6, 2) := o_21 (bg_dX2_readRoad_106 7 21 rfl) (bg_dX2_readRoad_106 8 6 rfl)
theorem dX2_readRoad_115 : decode cX2_readRoad 115 = .ok (.invokevirtual 133, 3) := o_182 (bg_dX2_readRoad_106 9 182 rfl) (bg_dX2_readRoad_106 10 0 rfl) (bg_dX2_readRoad_106 11 133 rfl)
theorem dX2_readRoad_118 : decode cX2_readRoad 118 = .ok (.pop, 1) := o_87 (bg_dX2_readRoad_106 12 87 rfl)
theorem dX2_readRoad_119 : decode cX2_readRoad 119 = .ok (.return_, 1) := o_177 (bg_dX2_readRoad_106 13 177 rfl)
theorem bg_dX2_readSetting_0 : bysAt cX2_readSetting 0 [42, 180, 0, 9, 3, 178, 0, 166, 27, 46, 182, 0, 109, 61, 42, 180, 0, 9, 182, 0, 51, 153, 0, 13, 42, 180, 0, 15] := bysAt_of (by decide +kernel)
theorem dX2_readSetting_0 : decode cX2_readSetting 0 = .ok (.aload_n 0, 1) := o_42 (bg_dX2_readSetting_0 0 42 rfl)
theorem dX2_readSetting_1 : decode cX2_readSetting 1 = .ok (.getfield 9, 3) := o_180 (bg_dX2_readSetting_0 1 180 rfl) (bg_dX2_readSetting_0 2 0 rfl) (bg_dX2_readSetting_0 3 9 rfl)
theorem dX2_readSetting_4 : decode cX2_readSetting 4 = .ok (.iconst 0, 1) := o_3 (bg_dX2_readSetting_0 4 3 rfl)
theorem dX2_readSetting_5 : decode cX2_readSetting 5 = .ok (.getstatic 166, 3) := o_178 (bg_dX2_readSetting_0 5 178 rfl) (bg_dX2_readSetting_0 6 0 rfl) (bg_dX2_readSetting_0 7 166 rfl)
theorem dX2_readSetting_8 : decode cX2_readSetting 8 = .ok (.iload_n 1, 1) := o_27 (bg_dX2_readSetting_0 8 27 rfl)
theorem dX2_readSetting_9 : decode cX2_readSetting 9 = .ok (.iaload, 1) := o_46 (bg_dX2_readSetting_0 9 46 rfl)
theorem dX2_readSetting_10 : decode cX2_readSetting 10 = .ok (.invokevirtual 109, 3) := o_182 (bg_dX2_readSetting_0 10 182 rfl) (bg_dX2_readSetting_0 11 0 rfl) (bg_dX2_readSetting_0 12 109 rfl)
theorem dX2_readSetting_13 : decode cX2_readSetting 13 = .ok (.istore_n 2, 1) := o_61 (bg_dX2_readSetting_0 13 61 rfl)
theorem dX2_readSetting_14 : decode cX2_readSetting 14 = .ok (.aload_n 0, 1) := o_42 (bg_dX2_readSetting_0 14 42 rfl)
theorem dX2_readSetting_15 : decode cX2_readSetting 15 = .ok (.getfield 9, 3) := o_180 (bg_dX2_readSetting_0 15 180 rfl) (bg_dX2_readSetting_0 16 0 rfl) (bg_dX2_readSetting_0 17 9 rfl)
theorem dX2_readSetting_18 : decode cX2_readSetting 18 = .ok (.invokevirtual 51, 3) := o_182 (bg_dX2_readSetting_0 18 182 rfl) (bg_dX2_readSetting_0 19 0 rfl) (bg_dX2_readSetting_0 20 51 rfl)
theorem dX2_readSetting_21 : decode cX2_readSetting 21 = .ok (.ifCond .eq 13, 3) := o_153 (bg_dX2_readSetting_0 21 153 rfl) (bg_dX2_readSetting_0 22 0 rfl) (bg_dX2_readSetting_0 23 13 rfl) (by decide +kernel)
theorem dX2_readSetting_24 : decode cX2_readSetting 24 = .ok (.aload_n 0, 1) := o_42 (bg_dX2_readSetting_0 24 42 rfl)
theorem dX2_readSetting_25 : decode cX2_readSetting 25 = .ok (.getfield 15, 3) := o_180 (bg_dX2_readSetting_0 25 180 rfl) (bg_dX2_readSetting_0 26 0 rfl) (bg_dX2_readSetting_0 27 15 rfl)
theorem bg_dX2_readSetting_28 : bysAt cX2_readSetting 28 [180, 0, 40, 27, 28, 79, 177] := bysAt_of (by decide +kernel)
theorem dX2_readSetting_28 : decode cX2_readSetting 28 = .ok (.getfield 40, 3) := o_180 (bg_dX2_readSetting_28 0 180 rfl) (bg_dX2_readSetting_28 1 0 rfl) (bg_dX2_readSetting_28 2 40 rfl)
theorem dX2_readSetting_31 : decode cX2_readSetting 31 = .ok (.iload_n 1, 1) := o_27 (bg_dX2_readSetting_28 3 27 rfl)
theorem dX2_readSetting_32 : decode cX2_readSetting 32 = .ok (.iload_n 2, 1) := o_28 (bg_dX2_readSetting_28 4 28 rfl)
theorem dX2_readSetting_33 : decode cX2_readSetting 33 = .ok (.iastore, 1) := o_79 (bg_dX2_readSetting_28 5 79 rfl)
theorem dX2_readSetting_34 : decode cX2_readSetting 34 = .ok (.return_, 1) := o_177 (bg_dX2_readSetting_28 6 177 rfl)
theorem bg_dX2_readStatement_0 : bysAt cX2_readStatement 0 [42, 180, 0, 9, 18, 61, 182, 0, 63, 153, 0, 10, 42, 182, 0, 67, 167, 0, 107, 42, 180, 0, 9, 18, 70, 182, 0, 63, 153, 0, 10, 42] := bysAt_of (by decide +kernel)
theorem dX2_readStatement_0 : decode cX2_readStatement 0 = .ok (.aload_n 0, 1) := o_42 (bg_dX2_readStatement_0 0 42 rfl)
theorem dX2_readStatement_1 : decode cX2_readStatement 1 = .ok (.getfield 9, 3) := o_180 (bg_dX2_readStatement_0 1 180 rfl) (bg_dX2_readStatement_0 2 0 rfl) (bg_dX2_readStatement_0 3 9 rfl)
theorem dX2_readStatement_4 : decode cX2_readStatement 4 = .ok (.ldc 61, 2) := o_18 (bg_dX2_readStatement_0 4 18 rfl) (bg_dX2_readStatement_0 5 61 rfl)
theorem dX2_readStatement_6 : decode cX2_readStatement 6 = .ok (.invokevirtual 63, 3) := o_182 (bg_dX2_readStatement_0 6 182 rfl) (bg_dX2_readStatement_0 7 0 rfl) (bg_dX2_readStatement_0 8 63 rfl)
theorem dX2_readStatement_9 : decode cX2_readStatement 9 = .ok (.ifCond .eq 10, 3) := o_153 (bg_dX2_readStatement_0 9 153 rfl) (bg_dX2_readStatement_0 10 0 rfl) (bg_dX2_readStatement_0 11 10 rfl) (by decide +kernel)
theorem dX2_readStatement_12 : decode cX2_readStatement 12 = .ok (.aload_n 0, 1) := o_42 (bg_dX2_readStatement_0 12 42 rfl)
theorem dX2_readStatement_13 : decode cX2_readStatement 13 = .ok (.invokevirtual 67, 3) := o_182 (bg_dX2_readStatement_0 13 182 rfl) (bg_dX2_readStatement_0 14 0 rfl) (bg_dX2_readStatement_0 15 67 rfl)
theorem dX2_readStatement_16 : decode cX2_readStatement 16 = .ok (.goto 107, 3) := o_167 (bg_dX2_readStatement_0 16 167 rfl) (bg_dX2_readStatement_0 17 0 rfl) (bg_dX2_readStatement_0 18 107 rfl) (by decide +kernel)
theorem dX2_readStatement_19 : decode cX2_readStatement 19 = .ok (.aload_n 0, 1) := o_42 (bg_dX2_readStatement_0 19 42 rfl)
theorem dX2_readStatement_20 : decode cX2_readStatement 20 = .ok (.getfield 9, 3) := o_180 (bg_dX2_readStatement_0 20 180 rfl) (bg_dX2_readStatement_0 21 0 rfl) (bg_dX2_readStatement_0 22 9 rfl)
theorem dX2_readStatement_23 : decode cX2_readStatement 23 = .ok (.ldc 70, 2) := o_18 (bg_dX2_readStatement_0 23 18 rfl) (bg_dX2_readStatement_0 24 70 rfl)
theorem dX2_readStatement_25 : decode cX2_readStatement 25 = .ok (.invokevirtual 63, 3) := o_182 (bg_dX2_readStatement_0 25 182 rfl) (bg_dX2_readStatement_0 26 0 rfl) (bg_dX2_readStatement_0 27 63 rfl)
theorem dX2_readStatement_28 : decode cX2_readStatement 28 = .ok (.ifCond .eq 10, 3) := o_153 (bg_dX2_readStatement_0 28 153 rfl) (bg_dX2_readStatement_0 29 0 rfl) (bg_dX2_readStatement_0 30 10 rfl) (by decide +kernel)
theorem dX2_readStatement_31 : decode cX2_readStatement 31 = .ok (.aload_n 0, 1) := o_42 (bg_dX2_readStatement_0 31 42 rfl)
theorem bg_dX2_readStatement_32 : bysAt cX2_readStatement 32 [182, 0, 72, 167, 0, 88, 42, 180, 0, 9, 18, 75, 182, 0, 63, 153, 0, 10, 42, 182, 0, 77, 167, 0, 69, 42, 180, 0, 9, 18, 80, 182, 0, 63] := bysAt_of (by decide +kernel)
theorem dX2_readStatement_32 : decode cX2_readStatement 32 = .ok (.invokevirtual 72, 3) := o_182 (bg_dX2_readStatement_32 0 182 rfl) (bg_dX2_readStatement_32 1 0 rfl) (bg_dX2_readStatement_32 2 72 rfl)
theorem dX2_readStatement_35 : decode cX2_readStatement 35 = .ok (.goto 88, 3) := o_167 (bg_dX2_readStatement_32 3 167 rfl) (bg_dX2_readStatement_32 4 0 rfl) (bg_dX2_readStatement_32 5 88 rfl) (by decide +kernel)
theorem dX2_readStatement_38 : decode cX2_readStatement 38 = .ok (.aload_n 0, 1) := o_42 (bg_dX2_readStatement_32 6 42 rfl)
theorem dX2_readStatement_39 : decode cX2_readStatement 39 = .ok (.getfield 9, 3) := o_180 (bg_dX2_readStatement_32 7 180 rfl) (bg_dX2_readStatement_32 8 0 rfl) (bg_dX2_readStatement_32 9 9 rfl)
theorem dX2_readStatement_42 : decode cX2_readStatement 42 = .ok (.ldc 75, 2) := o_18 (bg_dX2_readStatement_32 10 18 rfl) (bg_dX2_readStatement_32 11 75 rfl)
theorem dX2_readStatement_44 : decode cX2_readStatement 44 = .ok (.invokevirtual 63, 3) := o_182 (bg_dX2_readStatement_32 12 182 rfl) (bg_dX2_readStatement_32 13 0 rfl) (bg_dX2_readStatement_32 14 63 rfl)
theorem dX2_readStatement_47 : decode cX2_readStatement 47 = .ok (.ifCond .eq 10, 3) := o_153 (bg_dX2_readStatement_32 15 153 rfl) (bg_dX2_readStatement_32 16 0 rfl) (bg_dX2_readStatement_32 17 10 rfl) (by decide +kernel)
theorem dX2_readStatement_50 : decode cX2_readStatement 50 = .ok (.aload_n 0, 1) := o_42 (bg_dX2_readStatement_32 18 42 rfl)
theorem dX2_readStatement_51 : decode cX2_readStatement 51 = .ok (.invokevirtual 77, 3) := o_182 (bg_dX2_readStatement_32 19 182 rfl) (bg_dX2_readStatement_32 20 0 rfl) (bg_dX2_readStatement_32 21 77 rfl)
theorem dX2_readStatement_54 : decode cX2_readStatement 54 = .ok (.goto 69, 3) := o_167 (bg_dX2_readStatement_32 22 167 rfl) (bg_dX2_readStatement_32 23 0 rfl) (bg_dX2_readStatement_32 24 69 rfl) (by decide +kernel)
theorem dX2_readStatement_57 : decode cX2_readStatement 57 = .ok (.aload_n 0, 1) := o_42 (bg_dX2_readStatement_32 25 42 rfl)
theorem dX2_readStatement_58 : decode cX2_readStatement 58 = .ok (.getfield 9, 3) := o_180 (bg_dX2_readStatement_32 26 180 rfl) (bg_dX2_readStatement_32 27 0 rfl) (bg_dX2_readStatement_32 28 9 rfl)
theorem dX2_readStatement_61 : decode cX2_readStatement 61 = .ok (.ldc 80, 2) := o_18 (bg_dX2_readStatement_32 29 18 rfl) (bg_dX2_readStatement_32 30 80 rfl)
theorem dX2_readStatement_63 : decode cX2_readStatement 63 = .ok (.invokevirtual 63, 3) := o_182 (bg_dX2_readStatement_32 31 182 rfl) (bg_dX2_readStatement_32 32 0 rfl) (bg_dX2_readStatement_32 33 63 rfl)
theorem bg_dX2_readStatement_66 : bysAt cX2_readStatement 66 [153, 0, 10, 42, 182, 0, 82, 167, 0, 50, 42, 180, 0, 9, 18, 85, 182, 0, 87, 153, 0, 11, 42, 3, 182, 0, 90, 167, 0, 30, 42] := bysAt_of (by decide +kernel)
theorem dX2_readStatement_66 : decode cX2_readStatement 66 = .ok (.ifCond .eq 10, 3) := o_153 (bg_dX2_readStatement_66 0 153 rfl) (bg_dX2_readStatement_66 1 0 rfl) (bg_dX2_readStatement_66 2 10 rfl) (by decide +kernel)
theorem dX2_readStatement_69 : decode cX2_readStatement 69 = .ok (.aload_n 0, 1) := o_42 (bg_dX2_readStatement_66 3 42 rfl)
theorem dX2_readStatement_70 : decode cX2_readStatement 70 = .ok (.invokevirtual 82, 3) := o_182 (bg_dX2_readStatement_66 4 182 rfl) (bg_dX2_readStatement_66 5 0 rfl) (bg_dX2_readStatement_66 6 82 rfl)
theorem dX2_readStatement_73 : decode cX2_readStatement 73 = .ok (.goto 50, 3) := o_167 (bg_dX2_readStatement_66 7 167 rfl) (bg_dX2_readStatement_66 8 0 rfl) (bg_dX2_readStatement_66 9 50 rfl) (by decide +kernel)
theorem dX2_readStatement_76 : decode cX2_readStatement 76 = .ok (.aload_n 0, 1) := o_42 (bg_dX2_readStatement_66 10 42 rfl)
theorem dX2_readStatement_77 : decode cX2_readStatement 77 = .ok (.getfield 9, 3) := o_180 (bg_dX2_readStatement_66 11 180 rfl) (bg_dX2_readStatement_66 12 0 rfl) (bg_dX2_readStatement_66 13 9 rfl)
theorem dX2_readStatement_80 : decode cX2_readStatement 80 = .ok (.ldc 85, 2) := o_18 (bg_dX2_readStatement_66 14 18 rfl) (bg_dX2_readStatement_66 15 85 rfl)
theorem dX2_readStatement_82 : decode cX2_readStatement 82 = .ok (.invokevirtual 87, 3) := o_182 (bg_dX2_readStatement_66 16 182 rfl) (bg_dX2_readStatement_66 17 0 rfl) (bg_dX2_readStatement_66 18 87 rfl)
theorem dX2_readStatement_85 : decode cX2_readStatement 85 = .ok (.ifCond .eq 11, 3) := o_153 (bg_dX2_readStatement_66 19 153 rfl) (bg_dX2_readStatement_66 20 0 rfl) (bg_dX2_readStatement_66 21 11 rfl) (by decide +kernel)
theorem dX2_readStatement_88 : decode cX2_readStatement 88 = .ok (.aload_n 0, 1) := o_42 (bg_dX2_readStatement_66 22 42 rfl)
theorem dX2_readStatement_89 : decode cX2_readStatement 89 = .ok (.iconst 0, 1) := o_3 (bg_dX2_readStatement_66 23 3 rfl)
theorem dX2_readStatement_90 : decode cX2_readStatement 90 = .ok (.invokevirtual 90, 3) := o_182 (bg_dX2_readStatement_66 24 182 rfl) (bg_dX2_readStatement_66 25 0 rfl) (bg_dX2_readStatement_66 26 90 rfl)
theorem dX2_readStatement_93 : decode cX2_readStatement 93 = .ok (.goto 30, 3) := o_167 (bg_dX2_readStatement_66 27 167 rfl) (bg_dX2_readStatement_66 28 0 rfl) (bg_dX2_readStatement_66 29 30 rfl) (by decide +kernel)
theorem dX2_readStatement_96 : decode cX2_readStatement 96 = .ok (.aload_n 0, 1) := o_42 (bg_dX2_readStatement_66 30 42 rfl)
theorem bg_dX2_readStatement_97 : bysAt cX2_readStatement 97 [180, 0, 9, 18, 94, 182, 0, 87, 153, 0, 11, 42, 4, 182, 0, 90, 167, 0, 10, 42, 180, 0, 9, 182, 0, 96, 177] := bysAt_of (by decide +kernel)
theorem dX2_readStatement_97 : decode cX2_readStatement 97 = .ok (.getfield 9, 3) := o_180 (bg_dX2_readStatement_97 0 180 rfl) (bg_dX2_readStatement_97 1 0 rfl) (bg_dX2_readStatement_97 2 9 rfl)
theorem dX2_readStatement_100 : decode cX2_readStatement 100 = .ok (.ldc 94, 2) := o_18 (bg_dX2_readStatement_97 3 18 rfl) (bg_dX2_readStatement_97 4 94 rfl)
theorem dX2_readStatement_102 : decode cX2_readStatement 102 = .ok (.invokevirtual 87, 3) := o_182 (bg_dX2_readStatement_97 5 182 rfl) (bg_dX2_readStatement_97 6 0 rfl) (bg_dX2_readStatement_97 7 87 rfl)
theorem dX2_readStatement_105 : decode cX2_readStatement 105 = .ok (.ifCond .eq 11, 3) := o_153 (bg_dX2_readStatement_97 8 153 rfl) (bg_dX2_readStatement_97 9 0 rfl) (bg_dX2_readStatement_97 10 11 rfl) (by decide +kernel)
theorem dX2_readStatement_108 : decode cX2_readStatement 108 = .ok (.aload_n 0, 1) := o_42 (bg_dX2_readStatement_97 11 42 rfl)
theorem dX2_readStatement_109 : decode cX2_readStatement 109 = .ok (.iconst 1, 1) := o_4 (bg_dX2_readStatement_97 12 4 rfl)
theorem dX2_readStatement_110 : decode cX2_readStatement 110 = .ok (.invokevirtual 90, 3) := o_182 (bg_dX2_readStatement_97 13 182 rfl) (bg_dX2_readStatement_97 14 0 rfl) (bg_dX2_readStatement_97 15 90 rfl)
theorem dX2_readStatement_113 : decode cX2_readStatement 113 = .ok (.goto 10, 3) := o_167 (bg_dX2_readStatement_97 16 167 rfl) (bg_dX2_readStatement_97 17 0 rfl) (bg_dX2_readStatement_97 18 10 rfl) (by decide +kernel)
theorem dX2_readStatement_116 : decode cX2_readStatement 116 = .ok (.aload_n 0, 1) := o_42 (bg_dX2_readStatement_97 19 42 rfl)
theorem dX2_readStatement_117 : decode cX2_readStatement 117 = .ok (.getfield 9, 3) := o_180 (bg_dX2_readStatement_97 20 180 rfl) (bg_dX2_readStatement_97 21 0 rfl) (bg_dX2_readStatement_97 22 9 rfl)
theorem dX2_readStatement_120 : decode cX2_readStatement 120 = .ok (.invokevirtual 96, 3) := o_182 (bg_dX2_readStatement_97 23 182 rfl) (bg_dX2_readStatement_97 24 0 rfl) (bg_dX2_readStatement_97 25 96 rfl)
theorem dX2_readStatement_123 : decode cX2_readStatement 123 = .ok (.return_, 1) := o_177 (bg_dX2_readStatement_97 26 177 rfl)
theorem bg_dX2_readWaggon_0 : bysAt cX2_readWaggon 0 [42, 5, 182, 0, 106, 42, 180, 0, 9, 5, 16, 12, 182, 0, 109, 60, 42, 18, 155, 4, 16, 9, 182, 0, 119] := bysAt_of (by decide +kernel)
theorem dX2_readWaggon_0 : decode cX2_readWaggon 0 = .ok (.aload_n 0, 1) := o_42 (bg_dX2_readWaggon_0 0 42 rfl)
theorem dX2_readWaggon_1 : decode cX2_readWaggon 1 = .ok (.iconst 2, 1) := o_5 (bg_dX2_readWaggon_0 1 5 rfl)
theorem dX2_readWaggon_2 : decode cX2_readWaggon 2 = .ok (.invokevirtual 106, 3) := o_182 (bg_dX2_readWaggon_0 2 182 rfl) (bg_dX2_readWaggon_0 3 0 rfl) (bg_dX2_readWaggon_0 4 106 rfl)
theorem dX2_readWaggon_5 : decode cX2_readWaggon 5 = .ok (.aload_n 0, 1) := o_42 (bg_dX2_readWaggon_0 5 42 rfl)
theorem dX2_readWaggon_6 : decode cX2_readWaggon 6 = .ok (.getfield 9, 3) := o_180 (bg_dX2_readWaggon_0 6 180 rfl) (bg_dX2_readWaggon_0 7 0 rfl) (bg_dX2_readWaggon_0 8 9 rfl)
theorem dX2_readWaggon_9 : decode cX2_readWaggon 9 = .ok (.iconst 2, 1) := o_5 (bg_dX2_readWaggon_0 9 5 rfl)
theorem dX2_readWaggon_10 : decode cX2_readWaggon 10 = .ok (.bipush 12, 2) := o_16 (bg_dX2_readWaggon_0 10 16 rfl) (bg_dX2_readWaggon_0 11 12 rfl) (by decide +kernel)
theorem dX2_readWaggon_12 : decode cX2_readWaggon 12 = .ok (.invokevirtual 109, 3) := o_182 (bg_dX2_readWaggon_0 12 182 rfl) (bg_dX2_readWaggon_0 13 0 rfl) (bg_dX2_readWaggon_0 14 109 rfl)
theorem dX2_readWaggon_15 : decode cX2_readWaggon 15 = .ok (.istore_n 1, 1) := o_60 (bg_dX2_readWaggon_0 15 60 rfl)
theorem dX2_readWaggon_16 : decode cX2_readWaggon 16 = .ok (.aload_n 0, 1) := o_42 (bg_dX2_readWaggon_0 16 42 rfl)
theorem dX2_readWaggon_17 : decode cX2_readWaggon 17 = .ok (.ldc 155, 2) := o_18 (bg_dX2_readWaggon_0 17 18 rfl) (bg_dX2_readWaggon_0 18 155 rfl)
theorem dX2_readWaggon_19 : decode cX2_readWaggon 19 = .ok (.iconst 1, 1) := o_4 (bg_dX2_readWaggon_0 19 4 rfl)
theorem dX2_readWaggon_20 : decode cX2_readWaggon 20 = .ok (.bipush 9, 2) := o_16 (bg_dX2_readWaggon_0 20 16 rfl) (bg_dX2_readWaggon_0 21 9 rfl) (by decide +kernel)
theorem dX2_readWaggon_22 : decode cX2_readWaggon 22 = .ok (.invokevirtual 119, 3) := o_182 (bg_dX2_readWaggon_0 22 182 rfl) (bg_dX2_readWaggon_0 23 0 rfl) (bg_dX2_readWaggon_0 24 119 rfl)
theorem bg_dX2_readWaggon_25 : bysAt cX2_readWaggon 25 [61, 42, 18, 157, 3, 16, 99, 182, 0, 119, 62, 42, 180, 0, 9, 182, 0, 51, 153, 0, 14, 42, 180, 0, 15, 27] := bysAt_of (by decide +kernel)
theorem dX2_readWaggon_25 : decode cX2_readWaggon 25 = .ok (.istore_n 2, 1) := o_61 (bg_dX2_readWaggon_25 0 61 rfl)
theorem dX2_readWaggon_26 : decode cX2_readWaggon 26 = .ok (.aload_n 0, 1) := o_42 (bg_dX2_readWaggon_25 1 42 rfl)
theorem dX2_readWaggon_27 : decode cX2_readWaggon 27 = .ok (.ldc 157, 2) := o_18 (bg_dX2_readWaggon_25 2 18 rfl) (bg_dX2_readWaggon_25 3 157 rfl)
theorem dX2_readWaggon_29 : decode cX2_readWaggon 29 = .ok (.iconst 0, 1) := o_3 (bg_dX2_readWaggon_25 4 3 rfl)
theorem dX2_readWaggon_30 : decode cX2_readWaggon 30 = .ok (.bipush 99, 2) := o_16 (bg_dX2_readWaggon_25 5 16 rfl) (bg_dX2_readWaggon_25 6 99 rfl) (by decide +kernel)
theorem dX2_readWaggon_32 : decode cX2_readWaggon 32 = .ok (.invokevirtual 119, 3) := o_182 (bg_dX2_readWaggon_25 7 182 rfl) (bg_dX2_readWaggon_25 8 0 rfl) (bg_dX2_readWaggon_25 9 119 rfl)
theorem dX2_readWaggon_35 : decode cX2_readWaggon 35 = .ok (.istore_n 3, 1) := o_62 (bg_dX2_readWaggon_25 10 62 rfl)
theorem dX2_readWaggon_36 : decode cX2_readWaggon 36 = .ok (.aload_n 0, 1) := o_42 (bg_dX2_readWaggon_25 11 42 rfl)
theorem dX2_readWaggon_37 : decode cX2_readWaggon 37 = .ok (.getfield 9, 3) := o_180 (bg_dX2_readWaggon_25 12 180 rfl) (bg_dX2_readWaggon_25 13 0 rfl) (bg_dX2_readWaggon_25 14 9 rfl)
theorem dX2_readWaggon_40 : decode cX2_readWaggon 40 = .ok (.invokevirtual 51, 3) := o_182 (bg_dX2_readWaggon_25 15 182 rfl) (bg_dX2_readWaggon_25 16 0 rfl) (bg_dX2_readWaggon_25 17 51 rfl)
theorem dX2_readWaggon_43 : decode cX2_readWaggon 43 = .ok (.ifCond .eq 14, 3) := o_153 (bg_dX2_readWaggon_25 18 153 rfl) (bg_dX2_readWaggon_25 19 0 rfl) (bg_dX2_readWaggon_25 20 14 rfl) (by decide +kernel)
theorem dX2_readWaggon_46 : decode cX2_readWaggon 46 = .ok (.aload_n 0, 1) := o_42 (bg_dX2_readWaggon_25 21 42 rfl)
theorem dX2_readWaggon_47 : decode cX2_readWaggon 47 = .ok (.getfield 15, 3) := o_180 (bg_dX2_readWaggon_25 22 180 rfl) (bg_dX2_readWaggon_25 23 0 rfl) (bg_dX2_readWaggon_25 24 15 rfl)
theorem dX2_readWaggon_50 : decode cX2_readWaggon 50 = .ok (.iload_n 1, 1) := o_27 (bg_dX2_readWaggon_25 25 27 rfl)
theorem bg_dX2_readWaggon_51 : bysAt cX2_readWaggon 51 [28, 29, 182, 0, 159, 87, 177] := bysAt_of (by decide +kernel)
theorem dX2_readWaggon_51 : decode cX2_readWaggon 51 = .ok (.iload_n 2, 1) := o_28 (bg_dX2_readWaggon_51 0 28 rfl)
theorem dX2_readWaggon_52 : decode cX2_readWaggon 52 = .ok (.iload_n 3, 1) := o_29 (bg_dX2_readWaggon_51 1 29 rfl)
theorem dX2_readWaggon_53 : decode cX2_readWaggon 53 = .ok (.invokevirtual 159, 3) := o_182 (bg_dX2_readWaggon_51 2 182 rfl) (bg_dX2_readWaggon_51 3 0 rfl) (bg_dX2_readWaggon_51 4 159 rfl)
theorem dX2_readWaggon_56 : decode cX2_readWaggon 56 = .ok (.pop, 1) := o_87 (bg_dX2_readWaggon_51 5 87 rfl)
theorem dX2_readWaggon_57 : decode cX2_readWaggon 57 = .ok (.return_, 1) := o_177 (bg_dX2_readWaggon_51 6 177 rfl)
theorem bg_dX6_feed_0 : bysAt cX6_feed 0 [28, 4, 7, 184, 0, 66, 154, 0, 10, 42, 16, 254, 182, 0, 70, 172, 42, 180, 0, 42, 180, 0, 171, 28, 96] := bysAt_of (by decide +kernel)
theorem dX6_feed_0 : decode cX6_feed 0 = .ok (.iload_n 2, 1) := o_28 (bg_dX6_feed_0 0 28 rfl)
theorem dX6_feed_1 : decode cX6_feed 1 = .ok (.iconst 1, 1) := o_4 (bg_dX6_feed_0 1 4 rfl)
theorem dX6_feed_2 : decode cX6_feed 2 = .ok (.iconst 4, 1) := o_7 (bg_dX6_feed_0 2 7 rfl)
theorem dX6_feed_3 : decode cX6_feed 3 = .ok (.invokestatic 66, 3) := o_184 (bg_dX6_feed_0 3 184 rfl) (bg_dX6_feed_0 4 0 rfl) (bg_dX6_feed_0 5 66 rfl)
theorem dX6_feed_6 : decode cX6_feed 6 = .ok (.ifCond .ne 10, 3) := o_154 (bg_dX6_feed_0 6 154 rfl) (bg_dX6_feed_0 7 0 rfl) (bg_dX6_feed_0 8 10 rfl) (by decide +kernel)
theorem dX6_feed_9 : decode cX6_feed 9 = .ok (.aload_n 0, 1) := o_42 (bg_dX6_feed_0 9 42 rfl)
theorem dX6_feed_10 : decode cX6_feed 10 = .ok (.bipush (-2), 2) := o_16 (bg_dX6_feed_0 10 16 rfl) (bg_dX6_feed_0 11 254 rfl) (by decide +kernel)
theorem dX6_feed_12 : decode cX6_feed 12 = .ok (.invokevirtual 70, 3) := o_182 (bg_dX6_feed_0 12 182 rfl) (bg_dX6_feed_0 13 0 rfl) (bg_dX6_feed_0 14 70 rfl)
theorem dX6_feed_15 : decode cX6_feed 15 = .ok (.ireturn, 1) := o_172 (bg_dX6_feed_0 15 172 rfl)
theorem dX6_feed_16 : decode cX6_feed 16 = .ok (.aload_n 0, 1) := o_42 (bg_dX6_feed_0 16 42 rfl)
theorem dX6_feed_17 : decode cX6_feed 17 = .ok (.getfield 42, 3) := o_180 (bg_dX6_feed_0 17 180 rfl) (bg_dX6_feed_0 18 0 rfl) (bg_dX6_feed_0 19 42 rfl)
theorem dX6_feed_20 : decode cX6_feed 20 = .ok (.getfield 171, 3) := o_180 (bg_dX6_feed_0 20 180 rfl) (bg_dX6_feed_0 21 0 rfl) (bg_dX6_feed_0 22 171 rfl)
theorem dX6_feed_23 : decode cX6_feed 23 = .ok (.iload_n 2, 1) := o_28 (bg_dX6_feed_0 23 28 rfl)
theorem dX6_feed_24 : decode cX6_feed 24 = .ok (.iadd, 1) := o_96 (bg_dX6_feed_0 24 96 rfl)
theorem bg_dX6_feed_25 : bysAt cX6_feed 25 [17, 0, 250, 164, 0, 10, 42, 16, 250, 182, 0, 70, 172, 42, 180, 0, 42, 27, 28, 182, 0, 174, 42, 180, 0, 42, 180, 0, 171] := bysAt_of (by decide +kernel)
theorem dX6_feed_25 : decode cX6_feed 25 = .ok (.sipush 250, 3) := o_17 (bg_dX6_feed_25 0 17 rfl) (bg_dX6_feed_25 1 0 rfl) (bg_dX6_feed_25 2 250 rfl) (by decide +kernel)
theorem dX6_feed_28 : decode cX6_feed 28 = .ok (.if_icmp .le 10, 3) := o_164 (bg_dX6_feed_25 3 164 rfl) (bg_dX6_feed_25 4 0 rfl) (bg_dX6_feed_25 5 10 rfl) (by decide +kernel)
theorem dX6_feed_31 : decode cX6_feed 31 = .ok (.aload_n 0, 1) := o_42 (bg_dX6_feed_25 6 42 rfl)
theorem dX6_feed_32 : decode cX6_feed 32 = .ok (.bipush (-6), 2) := o_16 (bg_dX6_feed_25 7 16 rfl) (bg_dX6_feed_25 8 250 rfl) (by decide +kernel)
theorem dX6_feed_34 : decode cX6_feed 34 = .ok (.invokevirtual 70, 3) := o_182 (bg_dX6_feed_25 9 182 rfl) (bg_dX6_feed_25 10 0 rfl) (bg_dX6_feed_25 11 70 rfl)
theorem dX6_feed_37 : decode cX6_feed 37 = .ok (.ireturn, 1) := o_172 (bg_dX6_feed_25 12 172 rfl)
theorem dX6_feed_38 : decode cX6_feed 38 = .ok (.aload_n 0, 1) := o_42 (bg_dX6_feed_25 13 42 rfl)
theorem dX6_feed_39 : decode cX6_feed 39 = .ok (.getfield 42, 3) := o_180 (bg_dX6_feed_25 14 180 rfl) (bg_dX6_feed_25 15 0 rfl) (bg_dX6_feed_25 16 42 rfl)
theorem dX6_feed_42 : decode cX6_feed 42 = .ok (.iload_n 1, 1) := o_27 (bg_dX6_feed_25 17 27 rfl)
theorem dX6_feed_43 : decode cX6_feed 43 = .ok (.iload_n 2, 1) := o_28 (bg_dX6_feed_25 18 28 rfl)
theorem dX6_feed_44 : decode cX6_feed 44 = .ok (.invokevirtual 174, 3) := o_182 (bg_dX6_feed_25 19 182 rfl) (bg_dX6_feed_25 20 0 rfl) (bg_dX6_feed_25 21 174 rfl)
theorem dX6_feed_47 : decode cX6_feed 47 = .ok (.aload_n 0, 1) := o_42 (bg_dX6_feed_25 22 42 rfl)
theorem dX6_feed_48 : decode cX6_feed 48 = .ok (.getfield 42, 3) := o_180 (bg_dX6_feed_25 23 180 rfl) (bg_dX6_feed_25 24 0 rfl) (bg_dX6_feed_25 25 42 rfl)
theorem dX6_feed_51 : decode cX6_feed 51 = .ok (.getfield 171, 3) := o_180 (bg_dX6_feed_25 26 180 rfl) (bg_dX6_feed_25 27 0 rfl) (bg_dX6_feed_25 28 171 rfl)
theorem bg_dX6_feed_54 : bysAt cX6_feed 54 [172] := bysAt_of (by decide +kernel)
theorem dX6_feed_54 : decode cX6_feed 54 = .ok (.ireturn, 1) := o_172 (bg_dX6_feed_54 0 172 rfl)
theorem bg_dX6_land_0 : bysAt cX6_land 0 [42, 180, 0, 51, 182, 0, 177, 60, 42, 180, 0, 42, 3, 181, 0, 171, 42, 180, 0, 42, 180, 0, 181, 2, 159, 0, 21, 42] := bysAt_of (by decide +kernel)
theorem dX6_land_0 : decode cX6_land 0 = .ok (.aload_n 0, 1) := o_42 (bg_dX6_land_0 0 42 rfl)
theorem dX6_land_1 : decode cX6_land 1 = .ok (.getfield 51, 3) := o_180 (bg_dX6_land_0 1 180 rfl) (bg_dX6_land_0 2 0 rfl) (bg_dX6_land_0 3 51 rfl)
theorem dX6_land_4 : decode cX6_land 4 = .ok (.invokevirtual 177, 3) := o_182 (bg_dX6_land_0 4 182 rfl) (bg_dX6_land_0 5 0 rfl) (bg_dX6_land_0 6 177 rfl)
theorem dX6_land_7 : decode cX6_land 7 = .ok (.istore_n 1, 1) := o_60 (bg_dX6_land_0 7 60 rfl)
theorem dX6_land_8 : decode cX6_land 8 = .ok (.aload_n 0, 1) := o_42 (bg_dX6_land_0 8 42 rfl)
theorem dX6_land_9 : decode cX6_land 9 = .ok (.getfield 42, 3) := o_180 (bg_dX6_land_0 9 180 rfl) (bg_dX6_land_0 10 0 rfl) (bg_dX6_land_0 11 42 rfl)
theorem dX6_land_12 : decode cX6_land 12 = .ok (.iconst 0, 1) := o_3 (bg_dX6_land_0 12 3 rfl)
theorem dX6_land_13 : decode cX6_land 13 = .ok (.putfield 171, 3) := o_181 (bg_dX6_land_0 13 181 rfl) (bg_dX6_land_0 14 0 rfl) (bg_dX6_land_0 15 171 rfl)
theorem dX6_land_16 : decode cX6_land 16 = .ok (.aload_n 0, 1) := o_42 (bg_dX6_land_0 16 42 rfl)
theorem dX6_land_17 : decode cX6_land 17 = .ok (.getfield 42, 3) := o_180 (bg_dX6_land_0 17 180 rfl) (bg_dX6_land_0 18 0 rfl) (bg_dX6_land_0 19 42 rfl)
theorem dX6_land_20 : decode cX6_land 20 = .ok (.getfield 181, 3) := o_180 (bg_dX6_land_0 20 180 rfl) (bg_dX6_land_0 21 0 rfl) (bg_dX6_land_0 22 181 rfl)
theorem dX6_land_23 : decode cX6_land 23 = .ok (.iconst (-1), 1) := o_2 (bg_dX6_land_0 23 2 rfl)
theorem dX6_land_24 : decode cX6_land 24 = .ok (.if_icmp .eq 21, 3) := o_159 (bg_dX6_land_0 24 159 rfl) (bg_dX6_land_0 25 0 rfl) (bg_dX6_land_0 26 21 rfl) (by decide +kernel)
theorem dX6_land_27 : decode cX6_land 27 = .ok (.aload_n 0, 1) := o_42 (bg_dX6_land_0 27 42 rfl)
theorem bg_dX6_land_28 : bysAt cX6_land 28 [16, 254, 182, 0, 70, 87, 16, 236, 42, 180, 0, 42, 180, 0, 181, 100, 172, 27, 172] := bysAt_of (by decide +kernel)
theorem dX6_land_28 : decode cX6_land 28 = .ok (.bipush (-2), 2) := o_16 (bg_dX6_land_28 0 16 rfl) (bg_dX6_land_28 1 254 rfl) (by decide +kernel)
theorem dX6_land_30 : decode cX6_land 30 = .ok (.invokevirtual 70, 3) := o_182 (bg_dX6_land_28 2 182 rfl) (bg_dX6_land_28 3 0 rfl) (bg_dX6_land_28 4 70 rfl)
theorem dX6_land_33 : decode cX6_land 33 = .ok (.pop, 1) := o_87 (bg_dX6_land_28 5 87 rfl)
theorem dX6_land_34 : decode cX6_land 34 = .ok (.bipush (-20), 2) := o_16 (bg_dX6_land_28 6 16 rfl) (bg_dX6_land_28 7 236 rfl) (by decide +kernel)
theorem dX6_land_36 : decode cX6_land 36 = .ok (.aload_n 0, 1) := o_42 (bg_dX6_land_28 8 42 rfl)
theorem dX6_land_37 : decode cX6_land 37 = .ok (.getfield 42, 3) := o_180 (bg_dX6_land_28 9 180 rfl) (bg_dX6_land_28 10 0 rfl) (bg_dX6_land_28 11 42 rfl)
theorem dX6_land_40 : decode cX6_land 40 = .ok (.getfield 181, 3) := o_180 (bg_dX6_land_28 12 180 rfl) (bg_dX6_land_28 13 0 rfl) (bg_dX6_land_28 14 181 rfl)
theorem dX6_land_43 : decode cX6_land 43 = .ok (.isub, 1) := o_100 (bg_dX6_land_28 15 100 rfl)
theorem dX6_land_44 : decode cX6_land 44 = .ok (.ireturn, 1) := o_172 (bg_dX6_land_28 16 172 rfl)
theorem dX6_land_45 : decode cX6_land 45 = .ok (.iload_n 1, 1) := o_27 (bg_dX6_land_28 17 27 rfl)
theorem dX6_land_46 : decode cX6_land 46 = .ok (.ireturn, 1) := o_172 (bg_dX6_land_28 18 172 rfl)
theorem pdVX2_enter : yX2_enter.cls = RX2 ∧ yX2_enter.cls ≠ "java/lang/invoke/MethodHandle" ∧ yX2_enter.cls ≠ "java/lang/invoke/VarHandle" ∧ (parseMethodDescriptor yX2_enter.desc).map (fun d => d.parameters.length) = some 1 := by decide +kernel
theorem pdVX2_number : yX2_number.cls = RX2 ∧ yX2_number.cls ≠ "java/lang/invoke/MethodHandle" ∧ yX2_number.cls ≠ "java/lang/invoke/VarHandle" ∧ (parseMethodDescriptor yX2_number.desc).map (fun d => d.parameters.length) = some 3 := by decide +kernel
theorem pdVX2_numberIfTold : yX2_numberIfTold.cls = RX2 ∧ yX2_numberIfTold.cls ≠ "java/lang/invoke/MethodHandle" ∧ yX2_numberIfTold.cls ≠ "java/lang/invoke/VarHandle" ∧ (parseMethodDescriptor yX2_numberIfTold.desc).map (fun d => d.parameters.length) = some 4 := by decide +kernel
theorem pdVX2_read : yX2_read.cls = RX2 ∧ yX2_read.cls ≠ "java/lang/invoke/MethodHandle" ∧ yX2_read.cls ≠ "java/lang/invoke/VarHandle" ∧ (parseMethodDescriptor yX2_read.desc).map (fun d => d.parameters.length) = some 0 := by decide +kernel
theorem pdVX2_readBridge : yX2_readBridge.cls = RX2 ∧ yX2_readBridge.cls ≠ "java/lang/invoke/MethodHandle" ∧ yX2_readBridge.cls ≠ "java/lang/invoke/VarHandle" ∧ (parseMethodDescriptor yX2_readBridge.desc).map (fun d => d.parameters.length) = some 0 := by decide +kernel
theorem pdVX2_readPart : yX2_readPart.cls = RX2 ∧ yX2_readPart.cls ≠ "java/lang/invoke/MethodHandle" ∧ yX2_readPart.cls ≠ "java/lang/invoke/VarHandle" ∧ (parseMethodDescriptor yX2_readPart.desc).map (fun d => d.parameters.length) = some 0 := by decide +kernel
theorem pdVX2_readRoad : yX2_readRoad.cls = RX2 ∧ yX2_readRoad.cls ≠ "java/lang/invoke/MethodHandle" ∧ yX2_readRoad.cls ≠ "java/lang/invoke/VarHandle" ∧ (parseMethodDescriptor yX2_readRoad.desc).map (fun d => d.parameters.length) = some 0 := by decide +kernel
theorem pdVX2_readSetting : yX2_readSetting.cls = RX2 ∧ yX2_readSetting.cls ≠ "java/lang/invoke/MethodHandle" ∧ yX2_readSetting.cls ≠ "java/lang/invoke/VarHandle" ∧ (parseMethodDescriptor yX2_readSetting.desc).map (fun d => d.parameters.length) = some 1 := by decide +kernel
theorem pdVX2_readStatement : yX2_readStatement.cls = RX2 ∧ yX2_readStatement.cls ≠ "java/lang/invoke/MethodHandle" ∧ yX2_readStatement.cls ≠ "java/lang/invoke/VarHandle" ∧ (parseMethodDescriptor yX2_readStatement.desc).map (fun d => d.parameters.length) = some 0 := by decide +kernel
theorem pdVX2_readWaggon : yX2_readWaggon.cls = RX2 ∧ yX2_readWaggon.cls ≠ "java/lang/invoke/MethodHandle" ∧ yX2_readWaggon.cls ≠ "java/lang/invoke/VarHandle" ∧ (parseMethodDescriptor yX2_readWaggon.desc).map (fun d => d.parameters.length) = some 0 := by decide +kernel
theorem pdVX4_append : yX4_append.cls = RX4 ∧ yX4_append.cls ≠ "java/lang/invoke/MethodHandle" ∧ yX4_append.cls ≠ "java/lang/invoke/VarHandle" ∧ (parseMethodDescriptor yX4_append.desc).map (fun d => d.parameters.length) = some 2 := by decide +kernel
theorem pdVX4_isEnd : yX4_isEnd.cls = RX4 ∧ yX4_isEnd.cls ≠ "java/lang/invoke/MethodHandle" ∧ yX4_isEnd.cls ≠ "java/lang/invoke/VarHandle" ∧ (parseMethodDescriptor yX4_isEnd.desc).map (fun d => d.parameters.length) = some 0 := by decide +kernel
theorem pdVX4_rewind : yX4_rewind.cls = RX4 ∧ yX4_rewind.cls ≠ "java/lang/invoke/MethodHandle" ∧ yX4_rewind.cls ≠ "java/lang/invoke/VarHandle" ∧ (parseMethodDescriptor yX4_rewind.desc).map (fun d => d.parameters.length) = some 0 := by decide +kernel
theorem pdVX4_takeNumber : yX4_takeNumber.cls = RX4 ∧ yX4_takeNumber.cls ≠ "java/lang/invoke/MethodHandle" ∧ yX4_takeNumber.cls ≠ "java/lang/invoke/VarHandle" ∧ (parseMethodDescriptor yX4_takeNumber.desc).map (fun d => d.parameters.length) = some 2 := by decide +kernel
theorem pdVX4_takeSign : yX4_takeSign.cls = RX4 ∧ yX4_takeSign.cls ≠ "java/lang/invoke/MethodHandle" ∧ yX4_takeSign.cls ≠ "java/lang/invoke/VarHandle" ∧ (parseMethodDescriptor yX4_takeSign.desc).map (fun d => d.parameters.length) = some 0 := by decide +kernel
theorem pdVX4_takeWord : yX4_takeWord.cls = RX4 ∧ yX4_takeWord.cls ≠ "java/lang/invoke/MethodHandle" ∧ yX4_takeWord.cls ≠ "java/lang/invoke/VarHandle" ∧ (parseMethodDescriptor yX4_takeWord.desc).map (fun d => d.parameters.length) = some 1 := by decide +kernel
theorem pdVX4_takeWordIfThere : yX4_takeWordIfThere.cls = RX4 ∧ yX4_takeWordIfThere.cls ≠ "java/lang/invoke/MethodHandle" ∧ yX4_takeWordIfThere.cls ≠ "java/lang/invoke/VarHandle" ∧ (parseMethodDescriptor yX4_takeWordIfThere.desc).map (fun d => d.parameters.length) = some 1 := by decide +kernel
theorem dX2_read_93 : decode cX2_read 93 = .ok (.iinc 1 1, 3) := by decide +kernel
def oh_feed (s n : Int32) : Int32 := if ¬ ((1 : Int32) ≤ n ∧ n ≤ 4) then -2 else if (250 : Int32) < s + n then -6 else s + n
theorem oh_fd1 {s n r : Int32} (e : r = -2) (h : ¬ ((1 : Int32) ≤ n ∧ n ≤ 4)) : r = oh_feed s n := by rw [e]; exact (if_pos h).symm
theorem oh_fd2 {s n r : Int32} (e : r = -6) (h1 : (1 : Int32) ≤ n) (h2 : n ≤ 4) (c : (250 : Int32) < s + n) : r = oh_feed s n := by
  rw [e]
  unfold oh_feed
  rw [if_neg (fun q => q ⟨h1, h2⟩), if_pos c]
theorem oh_adn {s n : Int32} (hs : rg s 0 250) (h1 : (1 : Int32) ≤ n) (h2 : n ≤ 4) : (s + n).toInt = s.toInt + n.toInt := by
  have a1 := Int32.le_iff_toInt_le.mp h1
  have a2 := Int32.le_iff_toInt_le.mp h2
  have b1 : (1 : Int32).toInt = 1 := rfl
  have b2 : (4 : Int32).toInt = 4 := rfl
  rw [Int32.toInt_add]
  exact oh_bmod (by have := hs.1; omega) (by have := hs.2; omega)
theorem oh_fd3 {s n r : Int32} (hs : rg s 0 250) (h1 : (1 : Int32) ≤ n) (h2 : n ≤ 4) (c : s + n ≤ (250 : Int32)) (e : r.toInt = s.toInt + n.toInt) : r = oh_feed s n := by
  unfold oh_feed
  rw [if_neg (fun q => q ⟨h1, h2⟩), if_neg (fun q => absurd q (Int32.not_lt.mpr c))]
  exact Int32.toInt_inj.mp (by rw [e, oh_adn hs h1 h2])
def oh_fsz (s n : Int32) : Int32 := if ¬ ((1 : Int32) ≤ n ∧ n ≤ 4) then s else if (250 : Int32) < s + n then s else s + n
theorem oh_fz1 {s n r : Int32} (e : r = s) (h : ¬ ((1 : Int32) ≤ n ∧ n ≤ 4)) : r = oh_fsz s n := by rw [e]; exact (if_pos h).symm
theorem oh_fz2 {s n r : Int32} (e : r = s) (h1 : (1 : Int32) ≤ n) (h2 : n ≤ 4) (c : (250 : Int32) < s + n) : r = oh_fsz s n := by
  rw [e]
  unfold oh_fsz
  rw [if_neg (fun q => q ⟨h1, h2⟩), if_pos c]
theorem oh_fz3 {s n r : Int32} (hs : rg s 0 250) (h1 : (1 : Int32) ≤ n) (h2 : n ≤ 4) (c : s + n ≤ (250 : Int32)) (e : r.toInt = s.toInt + n.toInt) : r = oh_fsz s n := by
  unfold oh_fsz
  rw [if_neg (fun q => q ⟨h1, h2⟩), if_neg (fun q => absurd q (Int32.not_lt.mpr c))]
  exact Int32.toInt_inj.mp (by rw [e, oh_adn hs h1 h2])
theorem oh_fdp {s n : Int32} (hs : rg s 0 250) (h1 : (1 : Int32) ≤ n) (h2 : n ≤ 4) (c : s + n ≤ (250 : Int32)) : s.toInt + n.toInt ≤ 250 := by
  have := Int32.le_iff_toInt_le.mp c
  rw [oh_adn hs h1 h2] at this
  exact this
