theorem oh_nz {x : Int32} (h : 0 < x) : ¬ x = 0 := fun e => absurd h (by rw [e]; decide)
def fX6_cut (v_v : Int32) (v_by : Int32) : Int32 :=
  if 0 < v_by then v_v / v_by else 0
set_option maxHeartbeats 4000000 in
set_option maxRecDepth 100000 in
theorem c_X6_cut (l : Launch) (D : va_G) (E : Nat → ClassId) (G : Nat → Nat) (v_v : Int32) (v_by : Int32) : Met l yX6_cut (oh_w yX6_cut cX6_cut 2 (some .int)) ({ frames := 0, cells := 0, slots := 0, locals := 0 }) (oh_Pp D E G [.int v_v, .int v_by] []) (vp_Si (fun r => r = fX6_cut v_v v_by)) 0 0 (fun _ => False) := by
  refine Met.ofW (cc := cX6_cut) (maxL := 2) (ret := (some .int)) (by decide) rfl ?_
  intro p e s m args below meth c s₁ B hml hv
  obtain ⟨rfl, hP, hK, hG⟩ := hv
  have hx := B.exec
  have hb := B.bytes
  have hr := B.returns
  have hts := atoms_spec (ws := (oh_w yX6_cut cX6_cut 2 (some .int))) B.pre
  have htg : ∀ w ∈ oh_t, w.before _ s = true := fun w h => hts w (List.mem_cons_of_mem _ h)
  have hown : s.vm.findClass RX6 = some m.cls := findClass_of_methodNamed B.named
  have hlocks := B.notSynchronized
  have hS : va_S (fun _ => False) s.heap s.heap [] := va_S.rf
  have hl := lv_entry ([.int v_v, .int v_by]) (n := 2) (Nat.le_of_ble_eq_true rfl)
  rw [lg_entry_eq]
  generalize (lg_sl ([.int v_v, .int v_by]) ++ List.replicate (2 - (lg_sl ([.int v_v, .int v_by])).length) Slot.unset).toArray = ls at hl ⊢
  have hl : lv_has ls 2 [(0, .int v_v), (1, .int v_by)] := hl
  refine lv_iload_n hx hb dX6_cut_0 rfl (lv_at hl 1 rfl) ?_
  refine lv_if_gt (tgt := 8) hx hb dX6_cut_1 (by decide) (fun (c_1 : 0 < v_by) => ?_) (fun (c_1 : ¬ (0 < v_by)) => ?_)
  · refine lv_iload_n hx hb dX6_cut_8 rfl (lv_at hl 0 rfl) ?_
    refine lv_iload_n hx hb dX6_cut_9 rfl (lv_at hl 1 rfl) ?_
    refine lv_idiv hx hb dX6_cut_10 (oh_nz c_1) ?_
    exact W.iret (v := v_v / v_by) hx hb hr (fun t ht hW => ⟨v_v / v_by, rfl, by unfold fX6_cut; rw [if_pos c_1], ht⟩) (fun q h => by cases h) dX6_cut_11
  · refine lv_iconst (v := 0) hx hb dX6_cut_4 (by decide) ?_
    refine lv_goto (tgt := 11) hx hb dX6_cut_5 (by decide) ?_
    exact W.iret (v := 0) hx hb hr (fun t ht hW => ⟨0, rfl, by unfold fX6_cut; rw [if_neg c_1], ht⟩) (fun q h => by cases h) dX6_cut_11
def fX6_roundedUp (v_v : Int32) (v_by : Int32) : Int32 :=
  if 0 < v_by then ((v_v + v_by) - 1) / v_by else 0
set_option maxHeartbeats 4000000 in
set_option maxRecDepth 100000 in
theorem c_X6_roundedUp (l : Launch) (D : va_G) (E : Nat → ClassId) (G : Nat → Nat) (v_v : Int32) (v_by : Int32) : Met l yX6_roundedUp (oh_w yX6_roundedUp cX6_roundedUp 2 (some .int)) ({ frames := 0, cells := 0, slots := 0, locals := 0 }) (oh_Pp D E G [.int v_v, .int v_by] []) (vp_Si (fun r => r = fX6_roundedUp v_v v_by)) 0 0 (fun _ => False) := by
  refine Met.ofW (cc := cX6_roundedUp) (maxL := 2) (ret := (some .int)) (by decide) rfl ?_
  intro p e s m args below meth c s₁ B hml hv
  obtain ⟨rfl, hP, hK, hG⟩ := hv
  have hx := B.exec
  have hb := B.bytes
  have hr := B.returns
  have hts := atoms_spec (ws := (oh_w yX6_roundedUp cX6_roundedUp 2 (some .int))) B.pre
  have htg : ∀ w ∈ oh_t, w.before _ s = true := fun w h => hts w (List.mem_cons_of_mem _ h)
  have hown : s.vm.findClass RX6 = some m.cls := findClass_of_methodNamed B.named
  have hlocks := B.notSynchronized
  have hS : va_S (fun _ => False) s.heap s.heap [] := va_S.rf
  have hl := lv_entry ([.int v_v, .int v_by]) (n := 2) (Nat.le_of_ble_eq_true rfl)
  rw [lg_entry_eq]
  generalize (lg_sl ([.int v_v, .int v_by]) ++ List.replicate (2 - (lg_sl ([.int v_v, .int v_by])).length) Slot.unset).toArray = ls at hl ⊢
  have hl : lv_has ls 2 [(0, .int v_v), (1, .int v_by)] := hl
  refine lv_iload_n hx hb dX6_roundedUp_0 rfl (lv_at hl 1 rfl) ?_
  refine lv_if_gt (tgt := 8) hx hb dX6_roundedUp_1 (by decide) (fun (c_1 : 0 < v_by) => ?_) (fun (c_1 : ¬ (0 < v_by)) => ?_)
  · refine lv_iload_n hx hb dX6_roundedUp_8 rfl (lv_at hl 0 rfl) ?_
    refine lv_iload_n hx hb dX6_roundedUp_9 rfl (lv_at hl 1 rfl) ?_
    refine lv_iadd hx hb dX6_roundedUp_10 ?_
    refine lv_iconst (v := 1) hx hb dX6_roundedUp_11 (by decide) ?_
    refine lv_isub hx hb dX6_roundedUp_12 ?_
    refine lv_iload_n hx hb dX6_roundedUp_13 rfl (lv_at hl 1 rfl) ?_
    refine lv_idiv hx hb dX6_roundedUp_14 (oh_nz c_1) ?_
    exact W.iret (v := ((v_v + v_by) - 1) / v_by) hx hb hr (fun t ht hW => ⟨((v_v + v_by) - 1) / v_by, rfl, by unfold fX6_roundedUp; rw [if_pos c_1], ht⟩) (fun q h => by cases h) dX6_roundedUp_15
  · refine lv_iconst (v := 0) hx hb dX6_roundedUp_4 (by decide) ?_
    refine lv_goto (tgt := 15) hx hb dX6_roundedUp_5 (by decide) ?_
    exact W.iret (v := 0) hx hb hr (fun t ht hW => ⟨0, rfl, by unfold fX6_roundedUp; rw [if_neg c_1], ht⟩) (fun q h => by cases h) dX6_roundedUp_15
set_option maxHeartbeats 4000000 in
set_option maxRecDepth 100000 in
theorem c_X1_take (l : Launch) (D : va_G) (E : Nat → ClassId) (G : Nat → Nat) (sz : Nat) (a0 : Nat) (b0 : Nat) (v_w : Int32) (v_s : Int32) (nP : Nat) (p_axles : Int32) (p_space : Int32) (p_fullLength : Int32) (p_axleLoad : Int32) (p_sentCoin : Int32) (b0_counts : Nat) (b0_roads : Nat) (b0_bridges : Nat) (b0_waggons : Nat) (b0_parts : Nat) (b0_settings : Nat) (b0_trip : Nat) (v_ow : Int32) (fw : Nat → Int32) (fs : Nat → Int32) (fc : Nat → Int32) (fp : Nat → Int32) (h0 : vp_in v_w 5) (hP5 : nP ≤ 5) (hc : fc 3 = nI nP) : Met l yX1_take (oh_w yX1_take cX1_take 5 none) ({ frames := 2, cells := 0, slots := 0, locals := 43 }) (oh_Pm D E G [.ref a0, .ref b0, .int v_w, .int v_s] [(a0, .inr (1, [.int p_axles, .int p_space, .int p_fullLength, .int p_axleLoad, .int p_sentCoin])), (b0, .inr (0, [.ref b0_counts, .ref b0_roads, .ref b0_bridges, .ref b0_waggons, .ref b0_parts, .ref b0_settings, .ref b0_trip, .int v_ow])), (b0_waggons, .inl (E 0, 15, .inl fw)), (b0_settings, .inl (E 0, 3, .inl fs)), (b0_counts, .inl (E 0, 4, .inl fc)), (b0_parts, .inl (E 0, 10, .inl fp))] sz) (va_Qv (fun (_ : Unit) => True) (oh_B D (va_A [(a0, .inr (1, [.int p_axles, .int p_space, .int p_fullLength, .int p_axleLoad, .int p_sentCoin])), (b0, .inr (0, [.ref b0_counts, .ref b0_roads, .ref b0_bridges, .ref b0_waggons, .ref b0_parts, .ref b0_settings, .ref b0_trip, .int v_ow])), (b0_waggons, .inl (E 0, 15, .inl fw)), (b0_settings, .inl (E 0, 3, .inl fs)), (b0_counts, .inl (E 0, 4, .inl fc)), (b0_parts, .inl (E 0, 10, .inl fp))] sz) (fun _ => [(a0, .inr (1, [.int (fw ((v_w * 3) + 0).toNatClampNeg), .int (fw ((v_w * 3) + 1).toNatClampNeg), .int (((fw ((v_w * 3) + 1).toNatClampNeg) * ((fw ((v_w * 3) + 0).toNatClampNeg) - 1)) + 4), .int (fX6_roundedUp (if ((fw ((v_w * 3) + 2).toNatClampNeg) + (fs 0)) - (oh_psum fp v_s 0 nP) < 0 then 0 else ((fw ((v_w * 3) + 2).toNatClampNeg) + (fs 0)) - (oh_psum fp v_s 0 nP)) (fw ((v_w * 3) + 0).toNatClampNeg)), .int (oh_psum fp v_s 1 nP)])), (b0, .inr (0, [.ref b0_counts, .ref b0_roads, .ref b0_bridges, .ref b0_waggons, .ref b0_parts, .ref b0_settings, .ref b0_trip, .int v_ow])), (b0_waggons, .inl (E 0, 15, .inl fw)), (b0_settings, .inl (E 0, 3, .inl fs)), (b0_counts, .inl (E 0, 4, .inl fc)), (b0_parts, .inl (E 0, 10, .inl fp))])) (va_A [(a0, .inr (1, [.int p_axles, .int p_space, .int p_fullLength, .int p_axleLoad, .int p_sentCoin])), (b0, .inr (0, [.ref b0_counts, .ref b0_roads, .ref b0_bridges, .ref b0_waggons, .ref b0_parts, .ref b0_settings, .ref b0_trip, .int v_ow])), (b0_waggons, .inl (E 0, 15, .inl fw)), (b0_settings, .inl (E 0, 3, .inl fs)), (b0_counts, .inl (E 0, 4, .inl fc)), (b0_parts, .inl (E 0, 10, .inl fp))] sz)) 0 0 (va_A [(a0, .inr (1, [.int p_axles, .int p_space, .int p_fullLength, .int p_axleLoad, .int p_sentCoin])), (b0, .inr (0, [.ref b0_counts, .ref b0_roads, .ref b0_bridges, .ref b0_waggons, .ref b0_parts, .ref b0_settings, .ref b0_trip, .int v_ow])), (b0_waggons, .inl (E 0, 15, .inl fw)), (b0_settings, .inl (E 0, 3, .inl fs)), (b0_counts, .inl (E 0, 4, .inl fc)), (b0_parts, .inl (E 0, 10, .inl fp))] sz) := by
  refine Met.ofW (cc := cX1_take) (maxL := 5) (ret := none) (by decide) rfl ?_
  intro p e s m args below meth c s₁ B hml hv
  obtain ⟨rfl, hsz, hP, hK, hD0, hG⟩ := hv
  have hx := B.exec
  have hb := B.bytes
  have hr := B.returns
  have hts := atoms_spec (ws := (oh_w yX1_take cX1_take 5 none)) B.pre
  have htg : ∀ w ∈ oh_t, w.before _ s = true := fun w h => hts w (List.mem_cons_of_mem _ h)
  have hown : s.vm.findClass RX1 = some m.cls := findClass_of_methodNamed B.named
  have hlocks := B.notSynchronized
  subst hsz
  have hD := hD0.self (sz := s.heap.size)
  generalize hAe : va_A [(a0, .inr (1, [.int p_axles, .int p_space, .int p_fullLength, .int p_axleLoad, .int p_sentCoin])), (b0, .inr (0, [.ref b0_counts, .ref b0_roads, .ref b0_bridges, .ref b0_waggons, .ref b0_parts, .ref b0_settings, .ref b0_trip, .int v_ow])), (b0_waggons, .inl (E 0, 15, .inl fw)), (b0_settings, .inl (E 0, 3, .inl fs)), (b0_counts, .inl (E 0, 4, .inl fc)), (b0_parts, .inl (E 0, 10, .inl fp))] s.heap.size = A at hD hG ⊢
  have hA : ∀ q : Nat, s.heap.size ≤ q → A q := fun q h => by rw [← hAe]; exact Or.inr h
  have hS : va_S A s.heap s.heap [] := va_S.rf
  have hP : va_P D vwCl [(a0, .inr (1, [.int p_axles, .int p_space, .int p_fullLength, .int p_axleLoad, .int p_sentCoin])), (b0, .inr (0, [.ref b0_counts, .ref b0_roads, .ref b0_bridges, .ref b0_waggons, .ref b0_parts, .ref b0_settings, .ref b0_trip, .int v_ow])), (b0_waggons, .inl (E 0, 15, .inl fw)), (b0_settings, .inl (E 0, 3, .inl fs)), (b0_counts, .inl (E 0, 4, .inl fc)), (b0_parts, .inl (E 0, 10, .inl fp))] s.heap := hP
  have hl := lv_entry ([.ref a0, .ref b0, .int v_w, .int v_s]) (n := 5) (Nat.le_of_ble_eq_true rfl)
  rw [lg_entry_eq]
  generalize (lg_sl ([.ref a0, .ref b0, .int v_w, .int v_s]) ++ List.replicate (5 - (lg_sl ([.ref a0, .ref b0, .int v_w, .int v_s])).length) Slot.unset).toArray = ls at hl ⊢
  have hl : lv_has ls 5 [(0, .ref a0), (1, .ref b0), (2, .int v_w), (3, .int v_s)] := hl
  refine lv_aload_n hx hb dX1_take_0 rfl (lv_at hl 0 rfl) ?_
  refine lv_aload_n hx hb dX1_take_1 rfl (lv_at hl 1 rfl) ?_
  refine lv_iload_n hx hb dX1_take_2 rfl (lv_at hl 2 rfl) ?_
  refine lv_iconst (v := 0) hx hb dX1_take_3 (by decide) ?_
  refine oh_pV (As := [.int v_w, .int 0]) (rest := [.ref a0]) (v := fw ((v_w * 3) + 0).toNatClampNeg) ⟨hx, hb, hml, hown, htg⟩ (c_X0_ofWaggon l D E G b0 v_w 0 b0_counts b0_roads b0_bridges b0_waggons b0_parts b0_settings b0_trip v_ow fw h0 (show vp_in 0 3 by unfold vp_in; decide)) (cwV 2 htg (oh_gV q_707 q_688 q_689 q_67 q_690) rfl rfl rfl pdVX0_ofWaggon ⟨Nat.le_of_ble_eq_true rfl, Nat.le_of_ble_eq_true rfl⟩) hK (hP.sub (ws' := [(b0, .inr (0, [.ref b0_counts, .ref b0_roads, .ref b0_bridges, .ref b0_waggons, .ref b0_parts, .ref b0_settings, .ref b0_trip, .int v_ow])), (b0_waggons, .inl (E 0, 15, .inl fw))]) [1, 2] rfl) hG hS (va_recv hK hP (ci := 0) (q0 := 1) rfl rfl) rfl hl.1 rfl (Nat.le_of_ble_eq_true rfl) dX1_take_4 ⟨Nat.le_of_ble_eq_true rfl, Nat.le_of_ble_eq_true rfl⟩ ?_
  refine va_put (D := D) (ci := 1) (v := .int (fw ((v_w * 3) + 0).toNatClampNeg)) (ty := .int) (C := RX1) (T := TX1) (N := 5) hx hb htg ig_1 tyX1 tyX1_ok nmX1 hown hK hP hD hS 0 rfl rfl 0 (by decide) (htg _ q_145) (fun _ h9 => h9) rfl (by decide +kernel) rfl rfl (Nat.le_of_ble_eq_true rfl) dX1_take_7 (fun H locs hP hD hS => ?_)
  have hP : va_P D vwCl [(a0, .inr (1, [.int (fw ((v_w * 3) + 0).toNatClampNeg), .int p_space, .int p_fullLength, .int p_axleLoad, .int p_sentCoin])), (b0, .inr (0, [.ref b0_counts, .ref b0_roads, .ref b0_bridges, .ref b0_waggons, .ref b0_parts, .ref b0_settings, .ref b0_trip, .int v_ow])), (b0_waggons, .inl (E 0, 15, .inl fw)), (b0_settings, .inl (E 0, 3, .inl fs)), (b0_counts, .inl (E 0, 4, .inl fc)), (b0_parts, .inl (E 0, 10, .inl fp))] H := hP
  have hD : va_D A [(a0, .inr (1, [.int (fw ((v_w * 3) + 0).toNatClampNeg), .int p_space, .int p_fullLength, .int p_axleLoad, .int p_sentCoin])), (b0, .inr (0, [.ref b0_counts, .ref b0_roads, .ref b0_bridges, .ref b0_waggons, .ref b0_parts, .ref b0_settings, .ref b0_trip, .int v_ow])), (b0_waggons, .inl (E 0, 15, .inl fw)), (b0_settings, .inl (E 0, 3, .inl fs)), (b0_counts, .inl (E 0, 4, .inl fc)), (b0_parts, .inl (E 0, 10, .inl fp))] := hD
  refine lv_aload_n hx hb dX1_take_10 rfl (lv_at hl 0 rfl) ?_
  refine lv_aload_n hx hb dX1_take_11 rfl (lv_at hl 1 rfl) ?_
  refine lv_iload_n hx hb dX1_take_12 rfl (lv_at hl 2 rfl) ?_
  refine lv_iconst (v := 1) hx hb dX1_take_13 (by decide) ?_
  refine oh_pV (As := [.int v_w, .int 1]) (rest := [.ref a0]) (v := fw ((v_w * 3) + 1).toNatClampNeg) ⟨hx, hb, hml, hown, htg⟩ (c_X0_ofWaggon l D E G b0 v_w 1 b0_counts b0_roads b0_bridges b0_waggons b0_parts b0_settings b0_trip v_ow fw h0 (show vp_in 1 3 by unfold vp_in; decide)) (cwV 2 htg (oh_gV q_707 q_688 q_689 q_67 q_690) rfl rfl rfl pdVX0_ofWaggon ⟨Nat.le_of_ble_eq_true rfl, Nat.le_of_ble_eq_true rfl⟩) hK (hP.sub (ws' := [(b0, .inr (0, [.ref b0_counts, .ref b0_roads, .ref b0_bridges, .ref b0_waggons, .ref b0_parts, .ref b0_settings, .ref b0_trip, .int v_ow])), (b0_waggons, .inl (E 0, 15, .inl fw))]) [1, 2] rfl) hG hS (va_recv hK hP (ci := 0) (q0 := 1) rfl rfl) rfl hl.1 rfl (Nat.le_of_ble_eq_true rfl) dX1_take_14 ⟨Nat.le_of_ble_eq_true rfl, Nat.le_of_ble_eq_true rfl⟩ ?_
  refine va_put (D := D) (ci := 1) (v := .int (fw ((v_w * 3) + 1).toNatClampNeg)) (ty := .int) (C := RX1) (T := TX1) (N := 5) hx hb htg ig_1 tyX1 tyX1_ok nmX1 hown hK hP hD hS 0 rfl rfl 1 (by decide) (htg _ q_146) (fun _ h9 => h9) rfl (by decide +kernel) rfl rfl (Nat.le_of_ble_eq_true rfl) dX1_take_17 (fun H locs hP hD hS => ?_)
  have hP : va_P D vwCl [(a0, .inr (1, [.int (fw ((v_w * 3) + 0).toNatClampNeg), .int (fw ((v_w * 3) + 1).toNatClampNeg), .int p_fullLength, .int p_axleLoad, .int p_sentCoin])), (b0, .inr (0, [.ref b0_counts, .ref b0_roads, .ref b0_bridges, .ref b0_waggons, .ref b0_parts, .ref b0_settings, .ref b0_trip, .int v_ow])), (b0_waggons, .inl (E 0, 15, .inl fw)), (b0_settings, .inl (E 0, 3, .inl fs)), (b0_counts, .inl (E 0, 4, .inl fc)), (b0_parts, .inl (E 0, 10, .inl fp))] H := hP
  have hD : va_D A [(a0, .inr (1, [.int (fw ((v_w * 3) + 0).toNatClampNeg), .int (fw ((v_w * 3) + 1).toNatClampNeg), .int p_fullLength, .int p_axleLoad, .int p_sentCoin])), (b0, .inr (0, [.ref b0_counts, .ref b0_roads, .ref b0_bridges, .ref b0_waggons, .ref b0_parts, .ref b0_settings, .ref b0_trip, .int v_ow])), (b0_waggons, .inl (E 0, 15, .inl fw)), (b0_settings, .inl (E 0, 3, .inl fs)), (b0_counts, .inl (E 0, 4, .inl fc)), (b0_parts, .inl (E 0, 10, .inl fp))] := hD
  refine lv_aload_n hx hb dX1_take_20 rfl (lv_at hl 0 rfl) ?_
  refine lv_aload_n hx hb dX1_take_21 rfl (lv_at hl 1 rfl) ?_
  refine lv_iload_n hx hb dX1_take_22 rfl (lv_at hl 2 rfl) ?_
  refine oh_pV (As := [.int v_w]) (rest := [.ref a0]) (v := ((fw ((v_w * 3) + 1).toNatClampNeg) * ((fw ((v_w * 3) + 0).toNatClampNeg) - 1)) + 4) ⟨hx, hb, hml, hown, htg⟩ (c_X0_waggonLength l D E G b0 v_w b0_counts b0_roads b0_bridges b0_waggons b0_parts b0_settings b0_trip v_ow fw h0) (cwV 1 htg (oh_gV q_708 q_684 q_685 q_67 q_686) rfl rfl rfl pdVX0_waggonLength ⟨Nat.le_of_ble_eq_true rfl, Nat.le_of_ble_eq_true rfl⟩) hK (hP.sub (ws' := [(b0, .inr (0, [.ref b0_counts, .ref b0_roads, .ref b0_bridges, .ref b0_waggons, .ref b0_parts, .ref b0_settings, .ref b0_trip, .int v_ow])), (b0_waggons, .inl (E 0, 15, .inl fw))]) [1, 2] rfl) hG hS (va_recv hK hP (ci := 0) (q0 := 1) rfl rfl) rfl hl.1 rfl (Nat.le_of_ble_eq_true rfl) dX1_take_23 ⟨Nat.le_of_ble_eq_true rfl, Nat.le_of_ble_eq_true rfl⟩ ?_
  refine va_put (D := D) (ci := 1) (v := .int (((fw ((v_w * 3) + 1).toNatClampNeg) * ((fw ((v_w * 3) + 0).toNatClampNeg) - 1)) + 4)) (ty := .int) (C := RX1) (T := TX1) (N := 5) hx hb htg ig_1 tyX1 tyX1_ok nmX1 hown hK hP hD hS 0 rfl rfl 2 (by decide) (htg _ q_147) (fun _ h9 => h9) rfl (by decide +kernel) rfl rfl (Nat.le_of_ble_eq_true rfl) dX1_take_26 (fun H locs hP hD hS => ?_)
  have hP : va_P D vwCl [(a0, .inr (1, [.int (fw ((v_w * 3) + 0).toNatClampNeg), .int (fw ((v_w * 3) + 1).toNatClampNeg), .int (((fw ((v_w * 3) + 1).toNatClampNeg) * ((fw ((v_w * 3) + 0).toNatClampNeg) - 1)) + 4), .int p_axleLoad, .int p_sentCoin])), (b0, .inr (0, [.ref b0_counts, .ref b0_roads, .ref b0_bridges, .ref b0_waggons, .ref b0_parts, .ref b0_settings, .ref b0_trip, .int v_ow])), (b0_waggons, .inl (E 0, 15, .inl fw)), (b0_settings, .inl (E 0, 3, .inl fs)), (b0_counts, .inl (E 0, 4, .inl fc)), (b0_parts, .inl (E 0, 10, .inl fp))] H := hP
  have hD : va_D A [(a0, .inr (1, [.int (fw ((v_w * 3) + 0).toNatClampNeg), .int (fw ((v_w * 3) + 1).toNatClampNeg), .int (((fw ((v_w * 3) + 1).toNatClampNeg) * ((fw ((v_w * 3) + 0).toNatClampNeg) - 1)) + 4), .int p_axleLoad, .int p_sentCoin])), (b0, .inr (0, [.ref b0_counts, .ref b0_roads, .ref b0_bridges, .ref b0_waggons, .ref b0_parts, .ref b0_settings, .ref b0_trip, .int v_ow])), (b0_waggons, .inl (E 0, 15, .inl fw)), (b0_settings, .inl (E 0, 3, .inl fs)), (b0_counts, .inl (E 0, 4, .inl fc)), (b0_parts, .inl (E 0, 10, .inl fp))] := hD
  refine lv_aload_n hx hb dX1_take_29 rfl (lv_at hl 1 rfl) ?_
  refine lv_iload_n hx hb dX1_take_30 rfl (lv_at hl 2 rfl) ?_
  refine lv_iconst (v := 2) hx hb dX1_take_31 (by decide) ?_
  refine oh_pV (As := [.int v_w, .int 2]) (rest := []) (v := fw ((v_w * 3) + 2).toNatClampNeg) ⟨hx, hb, hml, hown, htg⟩ (c_X0_ofWaggon l D E G b0 v_w 2 b0_counts b0_roads b0_bridges b0_waggons b0_parts b0_settings b0_trip v_ow fw h0 (show vp_in 2 3 by unfold vp_in; decide)) (cwV 2 htg (oh_gV q_707 q_688 q_689 q_67 q_690) rfl rfl rfl pdVX0_ofWaggon ⟨Nat.le_of_ble_eq_true rfl, Nat.le_of_ble_eq_true rfl⟩) hK (hP.sub (ws' := [(b0, .inr (0, [.ref b0_counts, .ref b0_roads, .ref b0_bridges, .ref b0_waggons, .ref b0_parts, .ref b0_settings, .ref b0_trip, .int v_ow])), (b0_waggons, .inl (E 0, 15, .inl fw))]) [1, 2] rfl) hG hS (va_recv hK hP (ci := 0) (q0 := 1) rfl rfl) rfl hl.1 rfl (Nat.le_of_ble_eq_true rfl) dX1_take_32 ⟨Nat.le_of_ble_eq_true rfl, Nat.le_of_ble_eq_true rfl⟩ ?_
  refine lv_aload_n hx hb dX1_take_35 rfl (lv_at hl 1 rfl) ?_
  refine va_get (D := D) (ci := 0) (v := .ref b0_settings) (C := RX0) (T := TX0) (N := 8) hx hb htg ig_0 hown hK hP 1 rfl rfl 5 (by decide) (htg _ q_108) (fun _ h9 => h9) rfl dX1_take_36 ?_
  refine lv_iconst (v := 0) hx hb dX1_take_39 (by decide) ?_
  refine va_iald hx hb hK hP 3 0 rfl rfl (show vp_in 0 3 by unfold vp_in; decide) dX1_take_40 ?_
  refine lv_iadd hx hb dX1_take_41 ?_
  refine lv_aload_n hx hb dX1_take_42 rfl (lv_at hl 1 rfl) ?_
  refine lv_iload_n hx hb dX1_take_43 rfl (lv_at hl 3 rfl) ?_
  refine lv_iconst (v := 0) hx hb dX1_take_44 (by decide) ?_
  refine oh_pV (As := [.int v_s, .int 0]) (rest := [.int ((fw ((v_w * 3) + 2).toNatClampNeg) + (fs 0))]) (v := oh_psum fp v_s 0 nP) ⟨hx, hb, hml, hown, htg⟩ (c_X0_sumOfParts l D E G b0 v_s 0 nP b0_counts b0_roads b0_bridges b0_waggons b0_parts b0_settings b0_trip v_ow fc fp hP5 hc (show vp_in 0 2 by unfold vp_in; decide)) (cwV 2 htg (oh_gV q_709 q_710 q_711 q_67 q_712) rfl rfl rfl pdVX0_sumOfParts ⟨Nat.le_of_ble_eq_true rfl, Nat.le_of_ble_eq_true rfl⟩) hK (hP.sub (ws' := [(b0, .inr (0, [.ref b0_counts, .ref b0_roads, .ref b0_bridges, .ref b0_waggons, .ref b0_parts, .ref b0_settings, .ref b0_trip, .int v_ow])), (b0_counts, .inl (E 0, 4, .inl fc)), (b0_parts, .inl (E 0, 10, .inl fp))]) [1, 4, 5] rfl) hG hS (va_recv hK hP (ci := 0) (q0 := 1) rfl rfl) rfl hl.1 rfl (Nat.le_of_ble_eq_true rfl) dX1_take_45 ⟨Nat.le_of_ble_eq_true rfl, Nat.le_of_ble_eq_true rfl⟩ ?_
  refine lv_isub hx hb dX1_take_48 ?_
  refine lv_istore (lv' := [(4, .int (((fw ((v_w * 3) + 2).toNatClampNeg) + (fs 0)) - (oh_psum fp v_s 0 nP))), (0, .ref a0), (1, .ref b0), (2, .int v_w), (3, .int v_s)]) hx hb dX1_take_49 hl (by decide) rfl (fun ls hl => ?_)
  refine lv_aload_n hx hb dX1_take_51 rfl (lv_at hl 1 rfl) ?_
  refine lv_iload hx hb dX1_take_52 (lv_at hl 0 rfl) ?_
  refine lv_iconst (v := 0) hx hb dX1_take_54 (by decide) ?_
  refine va_mmax hx hb (by rw [hml]; exact hl.1.symm) hown (htg _ q_713) (htg _ q_714) (htg _ q_79) (htg _ q_715) (Nat.le_of_ble_eq_true rfl) (Nat.le_of_ble_eq_true rfl) (Nat.le_of_ble_eq_true rfl) (Nat.le_of_ble_eq_true rfl) dX1_take_55 ?_
  refine lv_aload_n hx hb dX1_take_58 rfl (lv_at hl 1 rfl) ?_
  refine va_get (D := D) (ci := 1) (v := .int (fw ((v_w * 3) + 0).toNatClampNeg)) (C := RX1) (T := TX1) (N := 5) hx hb htg ig_1 hown hK hP 0 rfl rfl 0 (by decide) (htg _ q_145) (fun _ h9 => h9) rfl dX1_take_59 ?_
  refine oh_pSN (As := [.int (if ((fw ((v_w * 3) + 2).toNatClampNeg) + (fs 0)) - (oh_psum fp v_s 0 nP) < 0 then 0 else ((fw ((v_w * 3) + 2).toNatClampNeg) + (fs 0)) - (oh_psum fp v_s 0 nP)), .int (fw ((v_w * 3) + 0).toNatClampNeg)]) (rest := [.ref a0]) (v := fX6_roundedUp (if ((fw ((v_w * 3) + 2).toNatClampNeg) + (fs 0)) - (oh_psum fp v_s 0 nP) < 0 then 0 else ((fw ((v_w * 3) + 2).toNatClampNeg) + (fs 0)) - (oh_psum fp v_s 0 nP)) (fw ((v_w * 3) + 0).toNatClampNeg)) ⟨hx, hb, hml, hown, htg⟩ (c_X6_roundedUp l D E G (if ((fw ((v_w * 3) + 2).toNatClampNeg) + (fs 0)) - (oh_psum fp v_s 0 nP) < 0 then 0 else ((fw ((v_w * 3) + 2).toNatClampNeg) + (fs 0)) - (oh_psum fp v_s 0 nP)) (fw ((v_w * 3) + 0).toNatClampNeg)) ⟨va_cnB (y := yX6_roundedUp) 2 htg (oh_gW q_718) rfl rfl rfl (hG.1 ("OneHeavyLoad$Pack", 43, ⟨"OneHeavyLoad", "roundedUp", "(II)I"⟩, "OneHeavyLoad") (List.mem_of_getElem? (i := 3) rfl)) (htg _ q_66) pdX6_roundedUp ⟨Nat.le_of_ble_eq_true rfl, Nat.le_of_ble_eq_true rfl⟩, htg _ q_717, trivial⟩ hK (hP.sub (ws' := []) [] rfl) hG hS rfl hl.1 rfl (Nat.le_of_ble_eq_true rfl) dX1_take_62 ⟨Nat.le_of_ble_eq_true rfl, Nat.le_of_ble_eq_true rfl⟩ ?_
  refine va_put (D := D) (ci := 1) (v := .int (fX6_roundedUp (if ((fw ((v_w * 3) + 2).toNatClampNeg) + (fs 0)) - (oh_psum fp v_s 0 nP) < 0 then 0 else ((fw ((v_w * 3) + 2).toNatClampNeg) + (fs 0)) - (oh_psum fp v_s 0 nP)) (fw ((v_w * 3) + 0).toNatClampNeg))) (ty := .int) (C := RX1) (T := TX1) (N := 5) hx hb htg ig_1 tyX1 tyX1_ok nmX1 hown hK hP hD hS 0 rfl rfl 3 (by decide) (htg _ q_149) (fun _ h9 => h9) rfl (by decide +kernel) rfl rfl (Nat.le_of_ble_eq_true rfl) dX1_take_65 (fun H locs hP hD hS => ?_)
  have hP : va_P D vwCl [(a0, .inr (1, [.int (fw ((v_w * 3) + 0).toNatClampNeg), .int (fw ((v_w * 3) + 1).toNatClampNeg), .int (((fw ((v_w * 3) + 1).toNatClampNeg) * ((fw ((v_w * 3) + 0).toNatClampNeg) - 1)) + 4), .int (fX6_roundedUp (if ((fw ((v_w * 3) + 2).toNatClampNeg) + (fs 0)) - (oh_psum fp v_s 0 nP) < 0 then 0 else ((fw ((v_w * 3) + 2).toNatClampNeg) + (fs 0)) - (oh_psum fp v_s 0 nP)) (fw ((v_w * 3) + 0).toNatClampNeg)), .int p_sentCoin])), (b0, .inr (0, [.ref b0_counts, .ref b0_roads, .ref b0_bridges, .ref b0_waggons, .ref b0_parts, .ref b0_settings, .ref b0_trip, .int v_ow])), (b0_waggons, .inl (E 0, 15, .inl fw)), (b0_settings, .inl (E 0, 3, .inl fs)), (b0_counts, .inl (E 0, 4, .inl fc)), (b0_parts, .inl (E 0, 10, .inl fp))] H := hP
  have hD : va_D A [(a0, .inr (1, [.int (fw ((v_w * 3) + 0).toNatClampNeg), .int (fw ((v_w * 3) + 1).toNatClampNeg), .int (((fw ((v_w * 3) + 1).toNatClampNeg) * ((fw ((v_w * 3) + 0).toNatClampNeg) - 1)) + 4), .int (fX6_roundedUp (if ((fw ((v_w * 3) + 2).toNatClampNeg) + (fs 0)) - (oh_psum fp v_s 0 nP) < 0 then 0 else ((fw ((v_w * 3) + 2).toNatClampNeg) + (fs 0)) - (oh_psum fp v_s 0 nP)) (fw ((v_w * 3) + 0).toNatClampNeg)), .int p_sentCoin])), (b0, .inr (0, [.ref b0_counts, .ref b0_roads, .ref b0_bridges, .ref b0_waggons, .ref b0_parts, .ref b0_settings, .ref b0_trip, .int v_ow])), (b0_waggons, .inl (E 0, 15, .inl fw)), (b0_settings, .inl (E 0, 3, .inl fs)), (b0_counts, .inl (E 0, 4, .inl fc)), (b0_parts, .inl (E 0, 10, .inl fp))] := hD
  refine lv_aload_n hx hb dX1_take_68 rfl (lv_at hl 1 rfl) ?_
  refine lv_aload_n hx hb dX1_take_69 rfl (lv_at hl 2 rfl) ?_
  refine lv_iload_n hx hb dX1_take_70 rfl (lv_at hl 4 rfl) ?_
  refine lv_iconst (v := 1) hx hb dX1_take_71 (by decide) ?_
  refine oh_pV (As := [.int v_s, .int 1]) (rest := [.ref a0]) (v := oh_psum fp v_s 1 nP) ⟨hx, hb, hml, hown, htg⟩ (c_X0_sumOfParts l D E G b0 v_s 1 nP b0_counts b0_roads b0_bridges b0_waggons b0_parts b0_settings b0_trip v_ow fc fp hP5 hc (show vp_in 1 2 by unfold vp_in; decide)) (cwV 2 htg (oh_gV q_709 q_710 q_711 q_67 q_712) rfl rfl rfl pdVX0_sumOfParts ⟨Nat.le_of_ble_eq_true rfl, Nat.le_of_ble_eq_true rfl⟩) hK (hP.sub (ws' := [(b0, .inr (0, [.ref b0_counts, .ref b0_roads, .ref b0_bridges, .ref b0_waggons, .ref b0_parts, .ref b0_settings, .ref b0_trip, .int v_ow])), (b0_counts, .inl (E 0, 4, .inl fc)), (b0_parts, .inl (E 0, 10, .inl fp))]) [1, 4, 5] rfl) hG hS (va_recv hK hP (ci := 0) (q0 := 1) rfl rfl) rfl hl.1 rfl (Nat.le_of_ble_eq_true rfl) dX1_take_72 ⟨Nat.le_of_ble_eq_true rfl, Nat.le_of_ble_eq_true rfl⟩ ?_
  refine va_put (D := D) (ci := 1) (v := .int (oh_psum fp v_s 1 nP)) (ty := .int) (C := RX1) (T := TX1) (N := 5) hx hb htg ig_1 tyX1 tyX1_ok nmX1 hown hK hP hD hS 0 rfl rfl 4 (by decide) (htg _ q_152) (fun _ h9 => h9) rfl (by decide +kernel) rfl rfl (Nat.le_of_ble_eq_true rfl) dX1_take_75 (fun H locs hP hD hS => ?_)
  have hP : va_P D vwCl [(a0, .inr (1, [.int (fw ((v_w * 3) + 0).toNatClampNeg), .int (fw ((v_w * 3) + 1).toNatClampNeg), .int (((fw ((v_w * 3) + 1).toNatClampNeg) * ((fw ((v_w * 3) + 0).toNatClampNeg) - 1)) + 4), .int (fX6_roundedUp (if ((fw ((v_w * 3) + 2).toNatClampNeg) + (fs 0)) - (oh_psum fp v_s 0 nP) < 0 then 0 else ((fw ((v_w * 3) + 2).toNatClampNeg) + (fs 0)) - (oh_psum fp v_s 0 nP)) (fw ((v_w * 3) + 0).toNatClampNeg)), .int (oh_psum fp v_s 1 nP)])), (b0, .inr (0, [.ref b0_counts, .ref b0_roads, .ref b0_bridges, .ref b0_waggons, .ref b0_parts, .ref b0_settings, .ref b0_trip, .int v_ow])), (b0_waggons, .inl (E 0, 15, .inl fw)), (b0_settings, .inl (E 0, 3, .inl fs)), (b0_counts, .inl (E 0, 4, .inl fc)), (b0_parts, .inl (E 0, 10, .inl fp))] H := hP
  have hD : va_D A [(a0, .inr (1, [.int (fw ((v_w * 3) + 0).toNatClampNeg), .int (fw ((v_w * 3) + 1).toNatClampNeg), .int (((fw ((v_w * 3) + 1).toNatClampNeg) * ((fw ((v_w * 3) + 0).toNatClampNeg) - 1)) + 4), .int (fX6_roundedUp (if ((fw ((v_w * 3) + 2).toNatClampNeg) + (fs 0)) - (oh_psum fp v_s 0 nP) < 0 then 0 else ((fw ((v_w * 3) + 2).toNatClampNeg) + (fs 0)) - (oh_psum fp v_s 0 nP)) (fw ((v_w * 3) + 0).toNatClampNeg)), .int (oh_psum fp v_s 1 nP)])), (b0, .inr (0, [.ref b0_counts, .ref b0_roads, .ref b0_bridges, .ref b0_waggons, .ref b0_parts, .ref b0_settings, .ref b0_trip, .int v_ow])), (b0_waggons, .inl (E 0, 15, .inl fw)), (b0_settings, .inl (E 0, 3, .inl fs)), (b0_counts, .inl (E 0, 4, .inl fc)), (b0_parts, .inl (E 0, 10, .inl fp))] := hD
  refine W.widen (k := 0) (n := 0) (Nat.le_of_ble_eq_true rfl) (Nat.le_of_ble_eq_true rfl) ?_
  exact W.vret hx hb hr (fun t ht hW => ⟨⟨(), rfl, trivial, ⟨by rw [ht]; exact hP.sub [0, 1, 2, 3, 4, 5] rfl, hD.sub [0, 1, 2, 3, 4, 5] (by decide) rfl⟩⟩, hS.F ht⟩) hS.2.2 dX1_take_78
set_option maxHeartbeats 4000000 in
set_option maxRecDepth 100000 in
theorem c_X1_strainOn (l : Launch) (D : va_G) (E : Nat → ClassId) (G : Nat → Nat) (a0 : Nat) (v_s : Int32) (p_axles : Int32) (p_space : Int32) (p_fullLength : Int32) (p_axleLoad : Int32) (p_sentCoin : Int32) : Met l yX1_strainOn (oh_w yX1_strainOn cX1_strainOn 2 (some .int)) ({ frames := 1, cells := 0, slots := 0, locals := 21 }) (oh_Pp D E G [.ref a0, .int v_s] [(a0, .inr (1, [.int p_axles, .int p_space, .int p_fullLength, .int p_axleLoad, .int p_sentCoin]))]) (vp_Si (fun r => r = (if (fX6_cut v_s p_space) + 1 < p_axles then (fX6_cut v_s p_space) + 1 else p_axles) * p_axleLoad)) 0 0 (fun _ => False) := by
  refine Met.ofW (cc := cX1_strainOn) (maxL := 2) (ret := (some .int)) (by decide) rfl ?_
  intro p e s m args below meth c s₁ B hml hv
  obtain ⟨rfl, hP, hK, hG⟩ := hv
  have hx := B.exec
  have hb := B.bytes
  have hr := B.returns
  have hts := atoms_spec (ws := (oh_w yX1_strainOn cX1_strainOn 2 (some .int))) B.pre
  have htg : ∀ w ∈ oh_t, w.before _ s = true := fun w h => hts w (List.mem_cons_of_mem _ h)
  have hown : s.vm.findClass RX1 = some m.cls := findClass_of_methodNamed B.named
  have hlocks := B.notSynchronized
  have hS : va_S (fun _ => False) s.heap s.heap [] := va_S.rf
  have hl := lv_entry ([.ref a0, .int v_s]) (n := 2) (Nat.le_of_ble_eq_true rfl)
  rw [lg_entry_eq]
  generalize (lg_sl ([.ref a0, .int v_s]) ++ List.replicate (2 - (lg_sl ([.ref a0, .int v_s])).length) Slot.unset).toArray = ls at hl ⊢
  have hl : lv_has ls 2 [(0, .ref a0), (1, .int v_s)] := hl
  refine lv_aload_n hx hb dX1_strainOn_0 rfl (lv_at hl 0 rfl) ?_
  refine va_get (D := D) (ci := 1) (v := .int p_axles) (C := RX1) (T := TX1) (N := 5) hx hb htg ig_1 hown hK hP 0 rfl rfl 0 (by decide) (htg _ q_145) (fun _ h9 => h9) rfl dX1_strainOn_1 ?_
  refine lv_iload_n hx hb dX1_strainOn_4 rfl (lv_at hl 1 rfl) ?_
  refine lv_aload_n hx hb dX1_strainOn_5 rfl (lv_at hl 0 rfl) ?_
  refine va_get (D := D) (ci := 1) (v := .int p_space) (C := RX1) (T := TX1) (N := 5) hx hb htg ig_1 hown hK hP 0 rfl rfl 1 (by decide) (htg _ q_146) (fun _ h9 => h9) rfl dX1_strainOn_6 ?_
  refine oh_pSN (As := [.int v_s, .int p_space]) (rest := [.int p_axles]) (v := fX6_cut v_s p_space) ⟨hx, hb, hml, hown, htg⟩ (c_X6_cut l D E G v_s p_space) ⟨va_cnB (y := yX6_cut) 2 htg (oh_gW q_729) rfl rfl rfl (hG.1 ("OneHeavyLoad$Pack", 52, ⟨"OneHeavyLoad", "cut", "(II)I"⟩, "OneHeavyLoad") (List.mem_of_getElem? (i := 4) rfl)) (htg _ q_66) pdX6_cut ⟨Nat.le_of_ble_eq_true rfl, Nat.le_of_ble_eq_true rfl⟩, htg _ q_728, trivial⟩ hK (hP.sub (ws' := []) [] rfl) hG hS rfl hl.1 rfl (Nat.le_of_ble_eq_true rfl) dX1_strainOn_9 ⟨Nat.le_of_ble_eq_true rfl, Nat.le_of_ble_eq_true rfl⟩ ?_
  refine lv_iconst (v := 1) hx hb dX1_strainOn_12 (by decide) ?_
  refine lv_iadd hx hb dX1_strainOn_13 ?_
  refine va_mmin hx hb (by rw [hml]; exact hl.1.symm) hown (htg _ q_730) (htg _ q_731) (htg _ q_79) (htg _ q_732) (Nat.le_of_ble_eq_true rfl) (Nat.le_of_ble_eq_true rfl) (Nat.le_of_ble_eq_true rfl) (Nat.le_of_ble_eq_true rfl) dX1_strainOn_14 ?_
  refine lv_aload_n hx hb dX1_strainOn_17 rfl (lv_at hl 0 rfl) ?_
  refine va_get (D := D) (ci := 1) (v := .int p_axleLoad) (C := RX1) (T := TX1) (N := 5) hx hb htg ig_1 hown hK hP 0 rfl rfl 3 (by decide) (htg _ q_149) (fun _ h9 => h9) rfl dX1_strainOn_18 ?_
  refine lv_imul hx hb dX1_strainOn_21 ?_
  exact W.iret (v := (if (fX6_cut v_s p_space) + 1 < p_axles then (fX6_cut v_s p_space) + 1 else p_axles) * p_axleLoad) hx hb hr (fun t ht hW => ⟨(if (fX6_cut v_s p_space) + 1 < p_axles then (fX6_cut v_s p_space) + 1 else p_axles) * p_axleLoad, rfl, rfl, ht⟩) (fun q h => by cases h) dX1_strainOn_22
def fX1_needsOf (v_b : Int32) (p_axles : Int32) (p_space : Int32) (p_axleLoad : Int32) (fb : Nat → Int32) (fs : Nat → Int32) : Int32 :=
  if p_axleLoad ≤ (fX0_bearsAxle v_b fb fs) then (if (fX0_bearsAll v_b (fX0_isPropped v_b fb) fb fs) < ((if (fX6_cut (fb ((v_b * 10) + 2).toNatClampNeg) p_space) + 1 < p_axles then (fX6_cut (fb ((v_b * 10) + 2).toNatClampNeg) p_space) + 1 else p_axles) * p_axleLoad) then (if (fX0_isPropped v_b fb) = 0 then (if (fb ((v_b * 10) + 1).toNatClampNeg) = 3 then 2 else if (fX0_bearsAll v_b 1 fb fs) < ((if (fX6_cut (fb ((v_b * 10) + 2).toNatClampNeg) p_space) + 1 < p_axles then (fX6_cut (fb ((v_b * 10) + 2).toNatClampNeg) p_space) + 1 else p_axles) * p_axleLoad) then 2 else 1) else 2) else 0) else 2
set_option maxHeartbeats 4000000 in
set_option maxRecDepth 100000 in
theorem c_X1_needsOf (l : Launch) (D : va_G) (E : Nat → ClassId) (G : Nat → Nat) (a0 : Nat) (b0 : Nat) (v_b : Int32) (p_axles : Int32) (p_space : Int32) (p_fullLength : Int32) (p_axleLoad : Int32) (p_sentCoin : Int32) (b0_counts : Nat) (b0_roads : Nat) (b0_bridges : Nat) (b0_waggons : Nat) (b0_parts : Nat) (b0_settings : Nat) (b0_trip : Nat) (v_ow : Int32) (fb : Nat → Int32) (fs : Nat → Int32) (h0 : vp_in v_b 16) : Met l yX1_needsOf (oh_w yX1_needsOf cX1_needsOf 5 (some .int)) ({ frames := 2, cells := 0, slots := 0, locals := 51 }) (oh_Pp D E G [.ref a0, .ref b0, .int v_b] [(a0, .inr (1, [.int p_axles, .int p_space, .int p_fullLength, .int p_axleLoad, .int p_sentCoin])), (b0, .inr (0, [.ref b0_counts, .ref b0_roads, .ref b0_bridges, .ref b0_waggons, .ref b0_parts, .ref b0_settings, .ref b0_trip, .int v_ow])), (b0_bridges, .inl (E 0, 160, .inl fb)), (b0_settings, .inl (E 0, 3, .inl fs))]) (vp_Si (fun r => r = fX1_needsOf v_b p_axles p_space p_axleLoad fb fs)) 0 0 (fun _ => False) := by
  refine Met.ofW (cc := cX1_needsOf) (maxL := 5) (ret := (some .int)) (by decide) rfl ?_
  intro p e s m args below meth c s₁ B hml hv
  obtain ⟨rfl, hP, hK, hG⟩ := hv
  have hx := B.exec
  have hb := B.bytes
  have hr := B.returns
  have hts := atoms_spec (ws := (oh_w yX1_needsOf cX1_needsOf 5 (some .int))) B.pre
  have htg : ∀ w ∈ oh_t, w.before _ s = true := fun w h => hts w (List.mem_cons_of_mem _ h)
  have hown : s.vm.findClass RX1 = some m.cls := findClass_of_methodNamed B.named
  have hlocks := B.notSynchronized
  have hS : va_S (fun _ => False) s.heap s.heap [] := va_S.rf
  have hl := lv_entry ([.ref a0, .ref b0, .int v_b]) (n := 5) (Nat.le_of_ble_eq_true rfl)
  rw [lg_entry_eq]
  generalize (lg_sl ([.ref a0, .ref b0, .int v_b]) ++ List.replicate (5 - (lg_sl ([.ref a0, .ref b0, .int v_b])).length) Slot.unset).toArray = ls at hl ⊢
  have hl : lv_has ls 5 [(0, .ref a0), (1, .ref b0), (2, .int v_b)] := hl
  refine lv_aload_n hx hb dX1_needsOf_0 rfl (lv_at hl 0 rfl) ?_
  refine va_get (D := D) (ci := 1) (v := .int p_axleLoad) (C := RX1) (T := TX1) (N := 5) hx hb htg ig_1 hown hK hP 0 rfl rfl 3 (by decide) (htg _ q_149) (fun _ h9 => h9) rfl dX1_needsOf_1 ?_
  refine lv_aload_n hx hb dX1_needsOf_4 rfl (lv_at hl 1 rfl) ?_
  refine lv_iload_n hx hb dX1_needsOf_5 rfl (lv_at hl 2 rfl) ?_
  refine oh_pV (As := [.int v_b]) (rest := [.int p_axleLoad]) (v := fX0_bearsAxle v_b fb fs) ⟨hx, hb, hml, hown, htg⟩ (c_X0_bearsAxle l D E G b0 v_b b0_counts b0_roads b0_bridges b0_waggons b0_parts b0_settings b0_trip v_ow fb fs h0) (cwV 1 htg (oh_gV q_741 q_394 q_395 q_67 q_396) rfl rfl rfl pdVX0_bearsAxle ⟨Nat.le_of_ble_eq_true rfl, Nat.le_of_ble_eq_true rfl⟩) hK (hP.sub (ws' := [(b0, .inr (0, [.ref b0_counts, .ref b0_roads, .ref b0_bridges, .ref b0_waggons, .ref b0_parts, .ref b0_settings, .ref b0_trip, .int v_ow])), (b0_bridges, .inl (E 0, 160, .inl fb)), (b0_settings, .inl (E 0, 3, .inl fs))]) [1, 2, 3] rfl) hG hS (va_recv hK hP (ci := 0) (q0 := 1) rfl rfl) rfl hl.1 rfl (Nat.le_of_ble_eq_true rfl) dX1_needsOf_6 ⟨Nat.le_of_ble_eq_true rfl, Nat.le_of_ble_eq_true rfl⟩ ?_
  refine lv_icmp_le (tgt := 14) hx hb dX1_needsOf_9 (by decide) (fun (c_1 : p_axleLoad ≤ (fX0_bearsAxle v_b fb fs)) => ?_) (fun (c_1 : ¬ (p_axleLoad ≤ (fX0_bearsAxle v_b fb fs))) => ?_)
  · refine lv_aload_n hx hb dX1_needsOf_14 rfl (lv_at hl 0 rfl) ?_
    refine lv_aload_n hx hb dX1_needsOf_15 rfl (lv_at hl 1 rfl) ?_
    refine lv_iload_n hx hb dX1_needsOf_16 rfl (lv_at hl 2 rfl) ?_
    refine lv_iconst (v := 2) hx hb dX1_needsOf_17 (by decide) ?_
    refine oh_pV (As := [.int v_b, .int 2]) (rest := [.ref a0]) (v := fb ((v_b * 10) + 2).toNatClampNeg) ⟨hx, hb, hml, hown, htg⟩ (c_X0_ofBridge l D E G b0 v_b 2 b0_counts b0_roads b0_bridges b0_waggons b0_parts b0_settings b0_trip v_ow fb h0 (show vp_in 2 10 by unfold vp_in; decide)) (cwV 2 htg (oh_gV q_742 q_385 q_386 q_67 q_387) rfl rfl rfl pdVX0_ofBridge ⟨Nat.le_of_ble_eq_true rfl, Nat.le_of_ble_eq_true rfl⟩) hK (hP.sub (ws' := [(b0, .inr (0, [.ref b0_counts, .ref b0_roads, .ref b0_bridges, .ref b0_waggons, .ref b0_parts, .ref b0_settings, .ref b0_trip, .int v_ow])), (b0_bridges, .inl (E 0, 160, .inl fb))]) [1, 2] rfl) hG hS (va_recv hK hP (ci := 0) (q0 := 1) rfl rfl) rfl hl.1 rfl (Nat.le_of_ble_eq_true rfl) dX1_needsOf_18 ⟨Nat.le_of_ble_eq_true rfl, Nat.le_of_ble_eq_true rfl⟩ ?_
    refine oh_pV (As := [.int (fb ((v_b * 10) + 2).toNatClampNeg)]) (rest := []) (v := (if (fX6_cut (fb ((v_b * 10) + 2).toNatClampNeg) p_space) + 1 < p_axles then (fX6_cut (fb ((v_b * 10) + 2).toNatClampNeg) p_space) + 1 else p_axles) * p_axleLoad) ⟨hx, hb, hml, hown, htg⟩ (c_X1_strainOn l D E G a0 (fb ((v_b * 10) + 2).toNatClampNeg) p_axles p_space p_fullLength p_axleLoad p_sentCoin) (cwV 1 htg (oh_gV q_743 q_724 q_725 q_69 q_726) rfl rfl rfl pdVX1_strainOn ⟨Nat.le_of_ble_eq_true rfl, Nat.le_of_ble_eq_true rfl⟩) hK (hP.sub (ws' := [(a0, .inr (1, [.int p_axles, .int p_space, .int p_fullLength, .int p_axleLoad, .int p_sentCoin]))]) [0] rfl) hG hS (va_recv hK hP (ci := 1) (q0 := 0) rfl rfl) rfl hl.1 rfl (Nat.le_of_ble_eq_true rfl) dX1_needsOf_21 ⟨Nat.le_of_ble_eq_true rfl, Nat.le_of_ble_eq_true rfl⟩ ?_
    refine lv_istore_n (lv' := [(3, .int ((if (fX6_cut (fb ((v_b * 10) + 2).toNatClampNeg) p_space) + 1 < p_axles then (fX6_cut (fb ((v_b * 10) + 2).toNatClampNeg) p_space) + 1 else p_axles) * p_axleLoad)), (0, .ref a0), (1, .ref b0), (2, .int v_b)]) hx hb dX1_needsOf_24 rfl hl (by decide) rfl (fun ls hl => ?_)
    refine lv_aload_n hx hb dX1_needsOf_25 rfl (lv_at hl 2 rfl) ?_
    refine lv_iload_n hx hb dX1_needsOf_26 rfl (lv_at hl 3 rfl) ?_
    refine oh_pV (As := [.int v_b]) (rest := []) (v := fX0_isPropped v_b fb) ⟨hx, hb, hml, hown, htg⟩ (c_X0_isPropped l D E G b0 v_b b0_counts b0_roads b0_bridges b0_waggons b0_parts b0_settings b0_trip v_ow fb h0) (cwV 1 htg (oh_gV q_744 q_402 q_403 q_67 q_404) rfl rfl rfl pdVX0_isPropped ⟨Nat.le_of_ble_eq_true rfl, Nat.le_of_ble_eq_true rfl⟩) hK (hP.sub (ws' := [(b0, .inr (0, [.ref b0_counts, .ref b0_roads, .ref b0_bridges, .ref b0_waggons, .ref b0_parts, .ref b0_settings, .ref b0_trip, .int v_ow])), (b0_bridges, .inl (E 0, 160, .inl fb))]) [1, 2] rfl) hG hS (va_recv hK hP (ci := 0) (q0 := 1) rfl rfl) rfl hl.1 rfl (Nat.le_of_ble_eq_true rfl) dX1_needsOf_27 ⟨Nat.le_of_ble_eq_true rfl, Nat.le_of_ble_eq_true rfl⟩ ?_
    refine lv_istore (lv' := [(4, .int (fX0_isPropped v_b fb)), (3, .int ((if (fX6_cut (fb ((v_b * 10) + 2).toNatClampNeg) p_space) + 1 < p_axles then (fX6_cut (fb ((v_b * 10) + 2).toNatClampNeg) p_space) + 1 else p_axles) * p_axleLoad)), (0, .ref a0), (1, .ref b0), (2, .int v_b)]) hx hb dX1_needsOf_30 hl (by decide) rfl (fun ls hl => ?_)
    refine lv_iload_n hx hb dX1_needsOf_32 rfl (lv_at hl 1 rfl) ?_
    refine lv_aload_n hx hb dX1_needsOf_33 rfl (lv_at hl 3 rfl) ?_
    refine lv_iload_n hx hb dX1_needsOf_34 rfl (lv_at hl 4 rfl) ?_
    refine lv_iload hx hb dX1_needsOf_35 (lv_at hl 0 rfl) ?_
    refine oh_pV (As := [.int v_b, .int (fX0_isPropped v_b fb)]) (rest := [.int ((if (fX6_cut (fb ((v_b * 10) + 2).toNatClampNeg) p_space) + 1 < p_axles then (fX6_cut (fb ((v_b * 10) + 2).toNatClampNeg) p_space) + 1 else p_axles) * p_axleLoad)]) (v := fX0_bearsAll v_b (fX0_isPropped v_b fb) fb fs) ⟨hx, hb, hml, hown, htg⟩ (c_X0_bearsAll l D E G b0 v_b (fX0_isPropped v_b fb) b0_counts b0_roads b0_bridges b0_waggons b0_parts b0_settings b0_trip v_ow fb fs h0) (cwV 2 htg (oh_gV q_745 q_406 q_407 q_67 q_408) rfl rfl rfl pdVX0_bearsAll ⟨Nat.le_of_ble_eq_true rfl, Nat.le_of_ble_eq_true rfl⟩) hK (hP.sub (ws' := [(b0, .inr (0, [.ref b0_counts, .ref b0_roads, .ref b0_bridges, .ref b0_waggons, .ref b0_parts, .ref b0_settings, .ref b0_trip, .int v_ow])), (b0_bridges, .inl (E 0, 160, .inl fb)), (b0_settings, .inl (E 0, 3, .inl fs))]) [1, 2, 3] rfl) hG hS (va_recv hK hP (ci := 0) (q0 := 1) rfl rfl) rfl hl.1 rfl (Nat.le_of_ble_eq_true rfl) dX1_needsOf_37 ⟨Nat.le_of_ble_eq_true rfl, Nat.le_of_ble_eq_true rfl⟩ ?_
    refine lv_icmp_gt (tgt := 45) hx hb dX1_needsOf_40 (by decide) (fun (c_2 : (fX0_bearsAll v_b (fX0_isPropped v_b fb) fb fs) < ((if (fX6_cut (fb ((v_b * 10) + 2).toNatClampNeg) p_space) + 1 < p_axles then (fX6_cut (fb ((v_b * 10) + 2).toNatClampNeg) p_space) + 1 else p_axles) * p_axleLoad)) => ?_) (fun (c_2 : ¬ ((fX0_bearsAll v_b (fX0_isPropped v_b fb) fb fs) < ((if (fX6_cut (fb ((v_b * 10) + 2).toNatClampNeg) p_space) + 1 < p_axles then (fX6_cut (fb ((v_b * 10) + 2).toNatClampNeg) p_space) + 1 else p_axles) * p_axleLoad))) => ?_)
    · refine lv_iload hx hb dX1_needsOf_45 (lv_at hl 0 rfl) ?_
      refine lv_if_ne (tgt := 60) hx hb dX1_needsOf_47 (by decide) (fun (c_3 : ¬ ((fX0_isPropped v_b fb) = 0)) => ?_) (fun (c_3 : (fX0_isPropped v_b fb) = 0) => ?_)
      · refine lv_iconst (v := 2) hx hb dX1_needsOf_60 (by decide) ?_
        exact W.iret (v := 2) hx hb hr (fun t ht hW => ⟨2, rfl, by unfold fX1_needsOf; rw [if_pos c_1, if_pos c_2, if_neg c_3], ht⟩) (fun q h => by cases h) dX1_needsOf_61
      · refine lv_aload_n hx hb dX1_needsOf_50 rfl (lv_at hl 3 rfl) ?_
        refine lv_iload_n hx hb dX1_needsOf_51 rfl (lv_at hl 4 rfl) ?_
        refine lv_iconst (v := 1) hx hb dX1_needsOf_52 (by decide) ?_
        refine oh_pV (As := [.int v_b, .int 1]) (rest := []) (v := fb ((v_b * 10) + 1).toNatClampNeg) ⟨hx, hb, hml, hown, htg⟩ (c_X0_ofBridge l D E G b0 v_b 1 b0_counts b0_roads b0_bridges b0_waggons b0_parts b0_settings b0_trip v_ow fb h0 (show vp_in 1 10 by unfold vp_in; decide)) (cwV 2 htg (oh_gV q_742 q_385 q_386 q_67 q_387) rfl rfl rfl pdVX0_ofBridge ⟨Nat.le_of_ble_eq_true rfl, Nat.le_of_ble_eq_true rfl⟩) hK (hP.sub (ws' := [(b0, .inr (0, [.ref b0_counts, .ref b0_roads, .ref b0_bridges, .ref b0_waggons, .ref b0_parts, .ref b0_settings, .ref b0_trip, .int v_ow])), (b0_bridges, .inl (E 0, 160, .inl fb))]) [1, 2] rfl) hG hS (va_recv hK hP (ci := 0) (q0 := 1) rfl rfl) rfl hl.1 rfl (Nat.le_of_ble_eq_true rfl) dX1_needsOf_53 ⟨Nat.le_of_ble_eq_true rfl, Nat.le_of_ble_eq_true rfl⟩ ?_
        refine lv_iconst (v := 3) hx hb dX1_needsOf_56 (by decide) ?_
        refine lv_icmp_ne (tgt := 62) hx hb dX1_needsOf_57 (by decide) (fun (c_4 : ¬ ((fb ((v_b * 10) + 1).toNatClampNeg) = 3)) => ?_) (fun (c_4 : (fb ((v_b * 10) + 1).toNatClampNeg) = 3) => ?_)
        · refine lv_iload_n hx hb dX1_needsOf_62 rfl (lv_at hl 1 rfl) ?_
          refine lv_aload_n hx hb dX1_needsOf_63 rfl (lv_at hl 3 rfl) ?_
          refine lv_iload_n hx hb dX1_needsOf_64 rfl (lv_at hl 4 rfl) ?_
          refine lv_iconst (v := 1) hx hb dX1_needsOf_65 (by decide) ?_
          refine oh_pV (As := [.int v_b, .int 1]) (rest := [.int ((if (fX6_cut (fb ((v_b * 10) + 2).toNatClampNeg) p_space) + 1 < p_axles then (fX6_cut (fb ((v_b * 10) + 2).toNatClampNeg) p_space) + 1 else p_axles) * p_axleLoad)]) (v := fX0_bearsAll v_b 1 fb fs) ⟨hx, hb, hml, hown, htg⟩ (c_X0_bearsAll l D E G b0 v_b 1 b0_counts b0_roads b0_bridges b0_waggons b0_parts b0_settings b0_trip v_ow fb fs h0) (cwV 2 htg (oh_gV q_745 q_406 q_407 q_67 q_408) rfl rfl rfl pdVX0_bearsAll ⟨Nat.le_of_ble_eq_true rfl, Nat.le_of_ble_eq_true rfl⟩) hK (hP.sub (ws' := [(b0, .inr (0, [.ref b0_counts, .ref b0_roads, .ref b0_bridges, .ref b0_waggons, .ref b0_parts, .ref b0_settings, .ref b0_trip, .int v_ow])), (b0_bridges, .inl (E 0, 160, .inl fb)), (b0_settings, .inl (E 0, 3, .inl fs))]) [1, 2, 3] rfl) hG hS (va_recv hK hP (ci := 0) (q0 := 1) rfl rfl) rfl hl.1 rfl (Nat.le_of_ble_eq_true rfl) dX1_needsOf_66 ⟨Nat.le_of_ble_eq_true rfl, Nat.le_of_ble_eq_true rfl⟩ ?_
          refine lv_icmp_gt (tgt := 76) hx hb dX1_needsOf_69 (by decide) (fun (c_5 : (fX0_bearsAll v_b 1 fb fs) < ((if (fX6_cut (fb ((v_b * 10) + 2).toNatClampNeg) p_space) + 1 < p_axles then (fX6_cut (fb ((v_b * 10) + 2).toNatClampNeg) p_space) + 1 else p_axles) * p_axleLoad)) => ?_) (fun (c_5 : ¬ ((fX0_bearsAll v_b 1 fb fs) < ((if (fX6_cut (fb ((v_b * 10) + 2).toNatClampNeg) p_space) + 1 < p_axles then (fX6_cut (fb ((v_b * 10) + 2).toNatClampNeg) p_space) + 1 else p_axles) * p_axleLoad))) => ?_)
          · refine lv_iconst (v := 2) hx hb dX1_needsOf_76 (by decide) ?_
            exact W.iret (v := 2) hx hb hr (fun t ht hW => ⟨2, rfl, by unfold fX1_needsOf; rw [if_pos c_1, if_pos c_2, if_pos c_3, if_neg c_4, if_pos c_5], ht⟩) (fun q h => by cases h) dX1_needsOf_77
          · refine lv_iconst (v := 1) hx hb dX1_needsOf_72 (by decide) ?_
            refine lv_goto (tgt := 77) hx hb dX1_needsOf_73 (by decide) ?_
            exact W.iret (v := 1) hx hb hr (fun t ht hW => ⟨1, rfl, by unfold fX1_needsOf; rw [if_pos c_1, if_pos c_2, if_pos c_3, if_neg c_4, if_neg c_5], ht⟩) (fun q h => by cases h) dX1_needsOf_77
        · refine lv_iconst (v := 2) hx hb dX1_needsOf_60 (by decide) ?_
          exact W.iret (v := 2) hx hb hr (fun t ht hW => ⟨2, rfl, by unfold fX1_needsOf; rw [if_pos c_1, if_pos c_2, if_pos c_3, if_pos c_4], ht⟩) (fun q h => by cases h) dX1_needsOf_61
    · refine lv_iconst (v := 0) hx hb dX1_needsOf_43 (by decide) ?_
      exact W.iret (v := 0) hx hb hr (fun t ht hW => ⟨0, rfl, by unfold fX1_needsOf; rw [if_pos c_1, if_neg c_2], ht⟩) (fun q h => by cases h) dX1_needsOf_44
  · refine lv_iconst (v := 2) hx hb dX1_needsOf_12 (by decide) ?_
    exact W.iret (v := 2) hx hb hr (fun t ht hW => ⟨2, rfl, by unfold fX1_needsOf; rw [if_neg c_1], ht⟩) (fun q h => by cases h) dX1_needsOf_13
