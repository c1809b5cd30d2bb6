set_option maxHeartbeats 4000000 in
set_option maxRecDepth 100000 in
theorem c_X5_engines (l : Launch) (D : va_G) (E : Nat → ClassId) (G : Nat → Nat) (a0 : Nat) (v_r : Int32) (a0_land : Nat) (a0_pack : Nat) (a0_props : Nat) (a0_propCoin : Nat) (a0_price : Nat) (a0_far : Nat) (a0_walked : Nat) (a0_land_counts : Nat) (a0_land_roads : Nat) (a0_land_bridges : Nat) (a0_land_waggons : Nat) (a0_land_parts : Nat) (a0_land_settings : Nat) (a0_land_trip : Nat) (v_ow : Int32) (fr : Nat → Int32) (p_axles : Int32) (p_space : Int32) (p_fullLength : Int32) (p_axleLoad : Int32) (p_sentCoin : Int32) (h0 : vp_in v_r 24) : Met l yX5_engines (oh_w yX5_engines cX5_engines 2 (some .int)) ({ frames := 1, cells := 0, slots := 0, locals := 22 }) (oh_Pp D E G [.ref a0, .int v_r] [(a0, .inr (5, [.ref a0_land, .ref a0_pack, .ref a0_props, .ref a0_propCoin, .ref a0_price, .ref a0_far, .ref a0_walked])), (a0_land, .inr (0, [.ref a0_land_counts, .ref a0_land_roads, .ref a0_land_bridges, .ref a0_land_waggons, .ref a0_land_parts, .ref a0_land_settings, .ref a0_land_trip, .int v_ow])), (a0_land_roads, .inl (E 0, 168, .inl fr)), (a0_pack, .inr (1, [.int p_axles, .int p_space, .int p_fullLength, .int p_axleLoad, .int p_sentCoin]))]) (vp_Si (fun r => r = 1 + (((fr ((v_r * 7) + 3).toNatClampNeg) * p_axleLoad) / 100))) 0 0 (fun _ => False) := by
  refine Met.ofW (cc := cX5_engines) (maxL := 2) (ret := (some .int)) (by decide) rfl ?_
  intro p e s m args below meth c s₁ B hml hv
  obtain ⟨rfl, hP, hK, hG⟩ := hv
  have hx := B.exec
  have hb := B.bytes
  have hr := B.returns
  have hts := atoms_spec (ws := (oh_w yX5_engines cX5_engines 2 (some .int))) B.pre
  have htg : ∀ w ∈ oh_t, w.before _ s = true := fun w h => hts w (List.mem_cons_of_mem _ h)
  have hown : s.vm.findClass RX5 = some m.cls := findClass_of_methodNamed B.named
  have hlocks := B.notSynchronized
  have hS : va_S (fun _ => False) s.heap s.heap [] := va_S.rf
  have hl := lv_entry ([.ref a0, .int v_r]) (n := 2) (Nat.le_of_ble_eq_true rfl)
  rw [lg_entry_eq]
  generalize (lg_sl ([.ref a0, .int v_r]) ++ List.replicate (2 - (lg_sl ([.ref a0, .int v_r])).length) Slot.unset).toArray = ls at hl ⊢
  have hl : lv_has ls 2 [(0, .ref a0), (1, .int v_r)] := hl
  refine lv_iconst (v := 1) hx hb dX5_engines_0 (by decide) ?_
  refine lv_aload_n hx hb dX5_engines_1 rfl (lv_at hl 0 rfl) ?_
  refine va_get (D := D) (ci := 5) (v := .ref a0_land) (C := RX5) (T := TX5) (N := 7) hx hb htg ig_5 hown hK hP 0 rfl rfl 0 (by decide) (htg _ q_167) (fun _ h9 => h9) rfl dX5_engines_2 ?_
  refine lv_iload_n hx hb dX5_engines_5 rfl (lv_at hl 1 rfl) ?_
  refine lv_iconst (v := 3) hx hb dX5_engines_6 (by decide) ?_
  refine oh_pV (As := [.int v_r, .int 3]) (rest := [.int 1]) (v := fr ((v_r * 7) + 3).toNatClampNeg) ⟨hx, hb, hml, hown, htg⟩ (c_X0_ofRoad l D E G a0_land v_r 3 a0_land_counts a0_land_roads a0_land_bridges a0_land_waggons a0_land_parts a0_land_settings a0_land_trip v_ow fr h0 (show vp_in 3 7 by unfold vp_in; decide)) (cwV 2 htg (oh_gV q_755 q_480 q_481 q_67 q_482) rfl rfl rfl pdVX0_ofRoad ⟨Nat.le_of_ble_eq_true rfl, Nat.le_of_ble_eq_true rfl⟩) hK (hP.sub (ws' := [(a0_land, .inr (0, [.ref a0_land_counts, .ref a0_land_roads, .ref a0_land_bridges, .ref a0_land_waggons, .ref a0_land_parts, .ref a0_land_settings, .ref a0_land_trip, .int v_ow])), (a0_land_roads, .inl (E 0, 168, .inl fr))]) [1, 2] rfl) hG hS (va_recv hK hP (ci := 0) (q0 := 1) rfl rfl) rfl hl.1 rfl (Nat.le_of_ble_eq_true rfl) dX5_engines_7 ⟨Nat.le_of_ble_eq_true rfl, Nat.le_of_ble_eq_true rfl⟩ ?_
  refine lv_aload_n hx hb dX5_engines_10 rfl (lv_at hl 0 rfl) ?_
  refine va_get (D := D) (ci := 5) (v := .ref a0_pack) (C := RX5) (T := TX5) (N := 7) hx hb htg ig_5 hown hK hP 0 rfl rfl 1 (by decide) (htg _ q_168) (fun _ h9 => h9) rfl dX5_engines_11 ?_
  refine va_get (D := D) (ci := 1) (v := .int p_axleLoad) (C := RX1) (T := TX1) (N := 5) hx hb htg ig_1 hown hK hP 3 rfl rfl 3 (by decide) (htg _ q_150) (fun _ h9 => h9) rfl dX5_engines_14 ?_
  refine lv_imul hx hb dX5_engines_17 ?_
  refine lv_bipush (v := 100) hx hb dX5_engines_18 (by decide) ?_
  refine lv_idiv hx hb dX5_engines_20 (by decide) ?_
  refine lv_iadd hx hb dX5_engines_21 ?_
  exact W.iret (v := 1 + (((fr ((v_r * 7) + 3).toNatClampNeg) * p_axleLoad) / 100)) hx hb hr (fun t ht hW => ⟨1 + (((fr ((v_r * 7) + 3).toNatClampNeg) * p_axleLoad) / 100), rfl, rfl, ht⟩) (fun q h => by cases h) dX5_engines_22
set_option maxHeartbeats 4000000 in
set_option maxRecDepth 100000 in
theorem c_X5_coinOf (l : Launch) (D : va_G) (E : Nat → ClassId) (G : Nat → Nat) (a0 : Nat) (v_r : Int32) (v_l : Int32) (a0_land : Nat) (a0_pack : Nat) (a0_props : Nat) (a0_propCoin : Nat) (a0_price : Nat) (a0_far : Nat) (a0_walked : Nat) (a0_land_counts : Nat) (a0_land_roads : Nat) (a0_land_bridges : Nat) (a0_land_waggons : Nat) (a0_land_parts : Nat) (a0_land_settings : Nat) (a0_land_trip : Nat) (v_ow : Int32) (fr : Nat → Int32) (fs : Nat → Int32) (p_axles : Int32) (p_space : Int32) (p_fullLength : Int32) (p_axleLoad : Int32) (p_sentCoin : Int32) (g_pc : Nat → Int32) (h0 : vp_in v_r 24) : Met l yX5_coinOf (oh_w yX5_coinOf cX5_coinOf 3 (some .int)) ({ frames := 2, cells := 0, slots := 0, locals := 43 }) (oh_Pp D E G [.ref a0, .int v_r, .int v_l] [(a0, .inr (5, [.ref a0_land, .ref a0_pack, .ref a0_props, .ref a0_propCoin, .ref a0_price, .ref a0_far, .ref a0_walked])), (a0_land, .inr (0, [.ref a0_land_counts, .ref a0_land_roads, .ref a0_land_bridges, .ref a0_land_waggons, .ref a0_land_parts, .ref a0_land_settings, .ref a0_land_trip, .int v_ow])), (a0_land_roads, .inl (E 0, 168, .inl fr)), (a0_land_settings, .inl (E 0, 3, .inl fs)), (a0_pack, .inr (1, [.int p_axles, .int p_space, .int p_fullLength, .int p_axleLoad, .int p_sentCoin])), (a0_propCoin, .inl (E 0, 24, .inl g_pc))]) (vp_Si (fun r => r = (((v_l * (fs 1)) * (fr ((v_r * 7) + 2).toNatClampNeg)) * (1 + (((fr ((v_r * 7) + 3).toNatClampNeg) * p_axleLoad) / 100))) + (g_pc (v_r).toNatClampNeg))) 0 0 (fun _ => False) := by
  refine Met.ofW (cc := cX5_coinOf) (maxL := 3) (ret := (some .int)) (by decide) rfl ?_
  intro p e s m args below meth c s₁ B hml hv
  obtain ⟨rfl, hP, hK, hG⟩ := hv
  have hx := B.exec
  have hb := B.bytes
  have hr := B.returns
  have hts := atoms_spec (ws := (oh_w yX5_coinOf cX5_coinOf 3 (some .int))) B.pre
  have htg : ∀ w ∈ oh_t, w.before _ s = true := fun w h => hts w (List.mem_cons_of_mem _ h)
  have hown : s.vm.findClass RX5 = some m.cls := findClass_of_methodNamed B.named
  have hlocks := B.notSynchronized
  have hS : va_S (fun _ => False) s.heap s.heap [] := va_S.rf
  have hl := lv_entry ([.ref a0, .int v_r, .int v_l]) (n := 3) (Nat.le_of_ble_eq_true rfl)
  rw [lg_entry_eq]
  generalize (lg_sl ([.ref a0, .int v_r, .int v_l]) ++ List.replicate (3 - (lg_sl ([.ref a0, .int v_r, .int v_l])).length) Slot.unset).toArray = ls at hl ⊢
  have hl : lv_has ls 3 [(0, .ref a0), (1, .int v_r), (2, .int v_l)] := hl
  refine lv_iload_n hx hb dX5_coinOf_0 rfl (lv_at hl 2 rfl) ?_
  refine lv_aload_n hx hb dX5_coinOf_1 rfl (lv_at hl 0 rfl) ?_
  refine va_get (D := D) (ci := 5) (v := .ref a0_land) (C := RX5) (T := TX5) (N := 7) hx hb htg ig_5 hown hK hP 0 rfl rfl 0 (by decide) (htg _ q_167) (fun _ h9 => h9) rfl dX5_coinOf_2 ?_
  refine va_get (D := D) (ci := 0) (v := .ref a0_land_settings) (C := RX0) (T := TX0) (N := 8) hx hb htg ig_0 hown hK hP 1 rfl rfl 5 (by decide) (htg _ q_109) (fun _ h9 => h9) rfl dX5_coinOf_5 ?_
  refine lv_iconst (v := 1) hx hb dX5_coinOf_8 (by decide) ?_
  refine va_iald hx hb hK hP 3 0 rfl rfl (show vp_in 1 3 by unfold vp_in; decide) dX5_coinOf_9 ?_
  refine lv_imul hx hb dX5_coinOf_10 ?_
  refine lv_aload_n hx hb dX5_coinOf_11 rfl (lv_at hl 0 rfl) ?_
  refine va_get (D := D) (ci := 5) (v := .ref a0_land) (C := RX5) (T := TX5) (N := 7) hx hb htg ig_5 hown hK hP 0 rfl rfl 0 (by decide) (htg _ q_167) (fun _ h9 => h9) rfl dX5_coinOf_12 ?_
  refine lv_iload_n hx hb dX5_coinOf_15 rfl (lv_at hl 1 rfl) ?_
  refine lv_iconst (v := 2) hx hb dX5_coinOf_16 (by decide) ?_
  refine oh_pV (As := [.int v_r, .int 2]) (rest := [.int (v_l * (fs 1))]) (v := fr ((v_r * 7) + 2).toNatClampNeg) ⟨hx, hb, hml, hown, htg⟩ (c_X0_ofRoad l D E G a0_land v_r 2 a0_land_counts a0_land_roads a0_land_bridges a0_land_waggons a0_land_parts a0_land_settings a0_land_trip v_ow fr h0 (show vp_in 2 7 by unfold vp_in; decide)) (cwV 2 htg (oh_gV q_755 q_480 q_481 q_67 q_482) rfl rfl rfl pdVX0_ofRoad ⟨Nat.le_of_ble_eq_true rfl, Nat.le_of_ble_eq_true rfl⟩) hK (hP.sub (ws' := [(a0_land, .inr (0, [.ref a0_land_counts, .ref a0_land_roads, .ref a0_land_bridges, .ref a0_land_waggons, .ref a0_land_parts, .ref a0_land_settings, .ref a0_land_trip, .int v_ow])), (a0_land_roads, .inl (E 0, 168, .inl fr))]) [1, 2] rfl) hG hS (va_recv hK hP (ci := 0) (q0 := 1) rfl rfl) rfl hl.1 rfl (Nat.le_of_ble_eq_true rfl) dX5_coinOf_17 ⟨Nat.le_of_ble_eq_true rfl, Nat.le_of_ble_eq_true rfl⟩ ?_
  refine lv_imul hx hb dX5_coinOf_20 ?_
  refine lv_aload_n hx hb dX5_coinOf_21 rfl (lv_at hl 0 rfl) ?_
  refine lv_iload_n hx hb dX5_coinOf_22 rfl (lv_at hl 1 rfl) ?_
  refine oh_pV (As := [.int v_r]) (rest := [.int ((v_l * (fs 1)) * (fr ((v_r * 7) + 2).toNatClampNeg))]) (v := 1 + (((fr ((v_r * 7) + 3).toNatClampNeg) * p_axleLoad) / 100)) ⟨hx, hb, hml, hown, htg⟩ (c_X5_engines l D E G a0 v_r a0_land a0_pack a0_props a0_propCoin a0_price a0_far a0_walked a0_land_counts a0_land_roads a0_land_bridges a0_land_waggons a0_land_parts a0_land_settings a0_land_trip v_ow fr p_axles p_space p_fullLength p_axleLoad p_sentCoin h0) (cwV 1 htg (oh_gV q_766 q_759 q_760 q_68 q_761) rfl rfl rfl pdVX5_engines ⟨Nat.le_of_ble_eq_true rfl, Nat.le_of_ble_eq_true rfl⟩) hK (hP.sub (ws' := [(a0, .inr (5, [.ref a0_land, .ref a0_pack, .ref a0_props, .ref a0_propCoin, .ref a0_price, .ref a0_far, .ref a0_walked])), (a0_land, .inr (0, [.ref a0_land_counts, .ref a0_land_roads, .ref a0_land_bridges, .ref a0_land_waggons, .ref a0_land_parts, .ref a0_land_settings, .ref a0_land_trip, .int v_ow])), (a0_land_roads, .inl (E 0, 168, .inl fr)), (a0_pack, .inr (1, [.int p_axles, .int p_space, .int p_fullLength, .int p_axleLoad, .int p_sentCoin]))]) [0, 1, 2, 4] rfl) hG hS (va_recv hK hP (ci := 5) (q0 := 0) rfl rfl) rfl hl.1 rfl (Nat.le_of_ble_eq_true rfl) dX5_coinOf_23 ⟨Nat.le_of_ble_eq_true rfl, Nat.le_of_ble_eq_true rfl⟩ ?_
  refine lv_imul hx hb dX5_coinOf_26 ?_
  refine lv_aload_n hx hb dX5_coinOf_27 rfl (lv_at hl 0 rfl) ?_
  refine va_get (D := D) (ci := 5) (v := .ref a0_propCoin) (C := RX5) (T := TX5) (N := 7) hx hb htg ig_5 hown hK hP 0 rfl rfl 3 (by decide) (htg _ q_172) (fun _ h9 => h9) rfl dX5_coinOf_28 ?_
  refine lv_iload_n hx hb dX5_coinOf_31 rfl (lv_at hl 1 rfl) ?_
  refine va_iald hx hb hK hP 5 0 rfl rfl h0 dX5_coinOf_32 ?_
  refine lv_iadd hx hb dX5_coinOf_33 ?_
  exact W.iret (v := (((v_l * (fs 1)) * (fr ((v_r * 7) + 2).toNatClampNeg)) * (1 + (((fr ((v_r * 7) + 3).toNatClampNeg) * p_axleLoad) / 100))) + (g_pc (v_r).toNatClampNeg)) hx hb hr (fun t ht hW => ⟨(((v_l * (fs 1)) * (fr ((v_r * 7) + 2).toNatClampNeg)) * (1 + (((fr ((v_r * 7) + 3).toNatClampNeg) * p_axleLoad) / 100))) + (g_pc (v_r).toNatClampNeg), rfl, rfl, ht⟩) (fun q h => by cases h) dX5_coinOf_34
set_option maxHeartbeats 4000000 in
set_option maxRecDepth 100000 in
theorem c_X5_daysOf (l : Launch) (D : va_G) (E : Nat → ClassId) (G : Nat → Nat) (a0 : Nat) (v_r : Int32) (a0_land : Nat) (a0_pack : Nat) (a0_props : Nat) (a0_propCoin : Nat) (a0_price : Nat) (a0_far : Nat) (a0_walked : Nat) (a0_land_counts : Nat) (a0_land_roads : Nat) (a0_land_bridges : Nat) (a0_land_waggons : Nat) (a0_land_parts : Nat) (a0_land_settings : Nat) (a0_land_trip : Nat) (v_ow : Int32) (fr : Nat → Int32) (g_props : Nat → Int32) (h0 : vp_in v_r 24) : Met l yX5_daysOf (oh_w yX5_daysOf cX5_daysOf 2 (some .int)) ({ frames := 1, cells := 0, slots := 0, locals := 22 }) (oh_Pp D E G [.ref a0, .int v_r] [(a0, .inr (5, [.ref a0_land, .ref a0_pack, .ref a0_props, .ref a0_propCoin, .ref a0_price, .ref a0_far, .ref a0_walked])), (a0_land, .inr (0, [.ref a0_land_counts, .ref a0_land_roads, .ref a0_land_bridges, .ref a0_land_waggons, .ref a0_land_parts, .ref a0_land_settings, .ref a0_land_trip, .int v_ow])), (a0_land_roads, .inl (E 0, 168, .inl fr)), (a0_props, .inl (E 0, 24, .inl g_props))]) (vp_Si (fun r => r = (fX6_roundedUp (fr ((v_r * 7) + 2).toNatClampNeg) 10) + (3 * (g_props (v_r).toNatClampNeg)))) 0 0 (fun _ => False) := by
  refine Met.ofW (cc := cX5_daysOf) (maxL := 2) (ret := (some .int)) (by decide) rfl ?_
  intro p e s m args below meth c s₁ B hml hv
  obtain ⟨rfl, hP, hK, hG⟩ := hv
  have hx := B.exec
  have hb := B.bytes
  have hr := B.returns
  have hts := atoms_spec (ws := (oh_w yX5_daysOf cX5_daysOf 2 (some .int))) B.pre
  have htg : ∀ w ∈ oh_t, w.before _ s = true := fun w h => hts w (List.mem_cons_of_mem _ h)
  have hown : s.vm.findClass RX5 = some m.cls := findClass_of_methodNamed B.named
  have hlocks := B.notSynchronized
  have hS : va_S (fun _ => False) s.heap s.heap [] := va_S.rf
  have hl := lv_entry ([.ref a0, .int v_r]) (n := 2) (Nat.le_of_ble_eq_true rfl)
  rw [lg_entry_eq]
  generalize (lg_sl ([.ref a0, .int v_r]) ++ List.replicate (2 - (lg_sl ([.ref a0, .int v_r])).length) Slot.unset).toArray = ls at hl ⊢
  have hl : lv_has ls 2 [(0, .ref a0), (1, .int v_r)] := hl
  refine lv_aload_n hx hb dX5_daysOf_0 rfl (lv_at hl 0 rfl) ?_
  refine va_get (D := D) (ci := 5) (v := .ref a0_land) (C := RX5) (T := TX5) (N := 7) hx hb htg ig_5 hown hK hP 0 rfl rfl 0 (by decide) (htg _ q_167) (fun _ h9 => h9) rfl dX5_daysOf_1 ?_
  refine lv_iload_n hx hb dX5_daysOf_4 rfl (lv_at hl 1 rfl) ?_
  refine lv_iconst (v := 2) hx hb dX5_daysOf_5 (by decide) ?_
  refine oh_pV (As := [.int v_r, .int 2]) (rest := []) (v := fr ((v_r * 7) + 2).toNatClampNeg) ⟨hx, hb, hml, hown, htg⟩ (c_X0_ofRoad l D E G a0_land v_r 2 a0_land_counts a0_land_roads a0_land_bridges a0_land_waggons a0_land_parts a0_land_settings a0_land_trip v_ow fr h0 (show vp_in 2 7 by unfold vp_in; decide)) (cwV 2 htg (oh_gV q_755 q_480 q_481 q_67 q_482) rfl rfl rfl pdVX0_ofRoad ⟨Nat.le_of_ble_eq_true rfl, Nat.le_of_ble_eq_true rfl⟩) hK (hP.sub (ws' := [(a0_land, .inr (0, [.ref a0_land_counts, .ref a0_land_roads, .ref a0_land_bridges, .ref a0_land_waggons, .ref a0_land_parts, .ref a0_land_settings, .ref a0_land_trip, .int v_ow])), (a0_land_roads, .inl (E 0, 168, .inl fr))]) [1, 2] rfl) hG hS (va_recv hK hP (ci := 0) (q0 := 1) rfl rfl) rfl hl.1 rfl (Nat.le_of_ble_eq_true rfl) dX5_daysOf_6 ⟨Nat.le_of_ble_eq_true rfl, Nat.le_of_ble_eq_true rfl⟩ ?_
  refine lv_bipush (v := 10) hx hb dX5_daysOf_9 (by decide) ?_
  refine oh_pSN (As := [.int (fr ((v_r * 7) + 2).toNatClampNeg), .int 10]) (rest := []) (v := fX6_roundedUp (fr ((v_r * 7) + 2).toNatClampNeg) 10) ⟨hx, hb, hml, hown, htg⟩ (c_X6_roundedUp l D E G (fr ((v_r * 7) + 2).toNatClampNeg) 10) ⟨va_cnB (y := yX6_roundedUp) 2 htg (oh_gW q_718) rfl rfl rfl (hG.1 ("OneHeavyLoad$Ways", 75, ⟨"OneHeavyLoad", "roundedUp", "(II)I"⟩, "OneHeavyLoad") (List.mem_of_getElem? (i := 5) rfl)) (htg _ q_66) pdX6_roundedUp ⟨Nat.le_of_ble_eq_true rfl, Nat.le_of_ble_eq_true rfl⟩, htg _ q_717, trivial⟩ hK (hP.sub (ws' := []) [] rfl) hG hS rfl hl.1 rfl (Nat.le_of_ble_eq_true rfl) dX5_daysOf_11 ⟨Nat.le_of_ble_eq_true rfl, Nat.le_of_ble_eq_true rfl⟩ ?_
  refine lv_iconst (v := 3) hx hb dX5_daysOf_14 (by decide) ?_
  refine lv_aload_n hx hb dX5_daysOf_15 rfl (lv_at hl 0 rfl) ?_
  refine va_get (D := D) (ci := 5) (v := .ref a0_props) (C := RX5) (T := TX5) (N := 7) hx hb htg ig_5 hown hK hP 0 rfl rfl 2 (by decide) (htg _ q_170) (fun _ h9 => h9) rfl dX5_daysOf_16 ?_
  refine lv_iload_n hx hb dX5_daysOf_19 rfl (lv_at hl 1 rfl) ?_
  refine va_iald hx hb hK hP 3 0 rfl rfl h0 dX5_daysOf_20 ?_
  refine lv_imul hx hb dX5_daysOf_21 ?_
  refine lv_iadd hx hb dX5_daysOf_22 ?_
  exact W.iret (v := (fX6_roundedUp (fr ((v_r * 7) + 2).toNatClampNeg) 10) + (3 * (g_props (v_r).toNatClampNeg))) hx hb hr (fun t ht hW => ⟨(fX6_roundedUp (fr ((v_r * 7) + 2).toNatClampNeg) 10) + (3 * (g_props (v_r).toNatClampNeg)), rfl, rfl, ht⟩) (fun q h => by cases h) dX5_daysOf_23
def fX5_otherEnd (v_r : Int32) (v_p : Int32) (fr : Nat → Int32) : Int32 :=
  if (fr ((v_r * 7) + 0).toNatClampNeg) = v_p then fr ((v_r * 7) + 1).toNatClampNeg else if (fr ((v_r * 7) + 1).toNatClampNeg) = v_p then fr ((v_r * 7) + 0).toNatClampNeg else (-1)
set_option maxHeartbeats 4000000 in
set_option maxRecDepth 100000 in
theorem c_X5_otherEnd (l : Launch) (D : va_G) (E : Nat → ClassId) (G : Nat → Nat) (a0 : Nat) (v_r : Int32) (v_p : Int32) (a0_land : Nat) (a0_pack : Nat) (a0_props : Nat) (a0_propCoin : Nat) (a0_price : Nat) (a0_far : Nat) (a0_walked : Nat) (a0_land_counts : Nat) (a0_land_roads : Nat) (a0_land_bridges : Nat) (a0_land_waggons : Nat) (a0_land_parts : Nat) (a0_land_settings : Nat) (a0_land_trip : Nat) (v_ow : Int32) (fr : Nat → Int32) (h0 : vp_in v_r 24) : Met l yX5_otherEnd (oh_w yX5_otherEnd cX5_otherEnd 3 (some .int)) ({ frames := 1, cells := 0, slots := 0, locals := 22 }) (oh_Pp D E G [.ref a0, .int v_r, .int v_p] [(a0, .inr (5, [.ref a0_land, .ref a0_pack, .ref a0_props, .ref a0_propCoin, .ref a0_price, .ref a0_far, .ref a0_walked])), (a0_land, .inr (0, [.ref a0_land_counts, .ref a0_land_roads, .ref a0_land_bridges, .ref a0_land_waggons, .ref a0_land_parts, .ref a0_land_settings, .ref a0_land_trip, .int v_ow])), (a0_land_roads, .inl (E 0, 168, .inl fr))]) (vp_Si (fun r => r = fX5_otherEnd v_r v_p fr)) 0 0 (fun _ => False) := by
  refine Met.ofW (cc := cX5_otherEnd) (maxL := 3) (ret := (some .int)) (by decide) rfl ?_
  intro p e s m args below meth c s₁ B hml hv
  obtain ⟨rfl, hP, hK, hG⟩ := hv
  have hx := B.exec
  have hb := B.bytes
  have hr := B.returns
  have hts := atoms_spec (ws := (oh_w yX5_otherEnd cX5_otherEnd 3 (some .int))) B.pre
  have htg : ∀ w ∈ oh_t, w.before _ s = true := fun w h => hts w (List.mem_cons_of_mem _ h)
  have hown : s.vm.findClass RX5 = some m.cls := findClass_of_methodNamed B.named
  have hlocks := B.notSynchronized
  have hS : va_S (fun _ => False) s.heap s.heap [] := va_S.rf
  have hl := lv_entry ([.ref a0, .int v_r, .int v_p]) (n := 3) (Nat.le_of_ble_eq_true rfl)
  rw [lg_entry_eq]
  generalize (lg_sl ([.ref a0, .int v_r, .int v_p]) ++ List.replicate (3 - (lg_sl ([.ref a0, .int v_r, .int v_p])).length) Slot.unset).toArray = ls at hl ⊢
  have hl : lv_has ls 3 [(0, .ref a0), (1, .int v_r), (2, .int v_p)] := hl
  refine lv_aload_n hx hb dX5_otherEnd_0 rfl (lv_at hl 0 rfl) ?_
  refine va_get (D := D) (ci := 5) (v := .ref a0_land) (C := RX5) (T := TX5) (N := 7) hx hb htg ig_5 hown hK hP 0 rfl rfl 0 (by decide) (htg _ q_167) (fun _ h9 => h9) rfl dX5_otherEnd_1 ?_
  refine lv_iload_n hx hb dX5_otherEnd_4 rfl (lv_at hl 1 rfl) ?_
  refine lv_iconst (v := 0) hx hb dX5_otherEnd_5 (by decide) ?_
  refine oh_pV (As := [.int v_r, .int 0]) (rest := []) (v := fr ((v_r * 7) + 0).toNatClampNeg) ⟨hx, hb, hml, hown, htg⟩ (c_X0_ofRoad l D E G a0_land v_r 0 a0_land_counts a0_land_roads a0_land_bridges a0_land_waggons a0_land_parts a0_land_settings a0_land_trip v_ow fr h0 (show vp_in 0 7 by unfold vp_in; decide)) (cwV 2 htg (oh_gV q_755 q_480 q_481 q_67 q_482) rfl rfl rfl pdVX0_ofRoad ⟨Nat.le_of_ble_eq_true rfl, Nat.le_of_ble_eq_true rfl⟩) hK (hP.sub (ws' := [(a0_land, .inr (0, [.ref a0_land_counts, .ref a0_land_roads, .ref a0_land_bridges, .ref a0_land_waggons, .ref a0_land_parts, .ref a0_land_settings, .ref a0_land_trip, .int v_ow])), (a0_land_roads, .inl (E 0, 168, .inl fr))]) [1, 2] rfl) hG hS (va_recv hK hP (ci := 0) (q0 := 1) rfl rfl) rfl hl.1 rfl (Nat.le_of_ble_eq_true rfl) dX5_otherEnd_6 ⟨Nat.le_of_ble_eq_true rfl, Nat.le_of_ble_eq_true rfl⟩ ?_
  refine lv_iload_n hx hb dX5_otherEnd_9 rfl (lv_at hl 2 rfl) ?_
  refine lv_icmp_ne (tgt := 23) hx hb dX5_otherEnd_10 (by decide) (fun (c_1 : ¬ ((fr ((v_r * 7) + 0).toNatClampNeg) = v_p)) => ?_) (fun (c_1 : (fr ((v_r * 7) + 0).toNatClampNeg) = v_p) => ?_)
  · refine lv_aload_n hx hb dX5_otherEnd_23 rfl (lv_at hl 0 rfl) ?_
    refine va_get (D := D) (ci := 5) (v := .ref a0_land) (C := RX5) (T := TX5) (N := 7) hx hb htg ig_5 hown hK hP 0 rfl rfl 0 (by decide) (htg _ q_167) (fun _ h9 => h9) rfl dX5_otherEnd_24 ?_
    refine lv_iload_n hx hb dX5_otherEnd_27 rfl (lv_at hl 1 rfl) ?_
    refine lv_iconst (v := 1) hx hb dX5_otherEnd_28 (by decide) ?_
    refine oh_pV (As := [.int v_r, .int 1]) (rest := []) (v := fr ((v_r * 7) + 1).toNatClampNeg) ⟨hx, hb, hml, hown, htg⟩ (c_X0_ofRoad l D E G a0_land v_r 1 a0_land_counts a0_land_roads a0_land_bridges a0_land_waggons a0_land_parts a0_land_settings a0_land_trip v_ow fr h0 (show vp_in 1 7 by unfold vp_in; decide)) (cwV 2 htg (oh_gV q_755 q_480 q_481 q_67 q_482) rfl rfl rfl pdVX0_ofRoad ⟨Nat.le_of_ble_eq_true rfl, Nat.le_of_ble_eq_true rfl⟩) hK (hP.sub (ws' := [(a0_land, .inr (0, [.ref a0_land_counts, .ref a0_land_roads, .ref a0_land_bridges, .ref a0_land_waggons, .ref a0_land_parts, .ref a0_land_settings, .ref a0_land_trip, .int v_ow])), (a0_land_roads, .inl (E 0, 168, .inl fr))]) [1, 2] rfl) hG hS (va_recv hK hP (ci := 0) (q0 := 1) rfl rfl) rfl hl.1 rfl (Nat.le_of_ble_eq_true rfl) dX5_otherEnd_29 ⟨Nat.le_of_ble_eq_true rfl, Nat.le_of_ble_eq_true rfl⟩ ?_
    refine lv_iload_n hx hb dX5_otherEnd_32 rfl (lv_at hl 2 rfl) ?_
    refine lv_icmp_ne (tgt := 48) hx hb dX5_otherEnd_33 (by decide) (fun (c_2 : ¬ ((fr ((v_r * 7) + 1).toNatClampNeg) = v_p)) => ?_) (fun (c_2 : (fr ((v_r * 7) + 1).toNatClampNeg) = v_p) => ?_)
    · refine lv_iconst (v := (-1)) hx hb dX5_otherEnd_48 (by decide) ?_
      exact W.iret (v := (-1)) hx hb hr (fun t ht hW => ⟨(-1), rfl, by unfold fX5_otherEnd; rw [if_neg c_1, if_neg c_2], ht⟩) (fun q h => by cases h) dX5_otherEnd_49
    · refine lv_aload_n hx hb dX5_otherEnd_36 rfl (lv_at hl 0 rfl) ?_
      refine va_get (D := D) (ci := 5) (v := .ref a0_land) (C := RX5) (T := TX5) (N := 7) hx hb htg ig_5 hown hK hP 0 rfl rfl 0 (by decide) (htg _ q_167) (fun _ h9 => h9) rfl dX5_otherEnd_37 ?_
      refine lv_iload_n hx hb dX5_otherEnd_40 rfl (lv_at hl 1 rfl) ?_
      refine lv_iconst (v := 0) hx hb dX5_otherEnd_41 (by decide) ?_
      refine oh_pV (As := [.int v_r, .int 0]) (rest := []) (v := fr ((v_r * 7) + 0).toNatClampNeg) ⟨hx, hb, hml, hown, htg⟩ (c_X0_ofRoad l D E G a0_land v_r 0 a0_land_counts a0_land_roads a0_land_bridges a0_land_waggons a0_land_parts a0_land_settings a0_land_trip v_ow fr h0 (show vp_in 0 7 by unfold vp_in; decide)) (cwV 2 htg (oh_gV q_755 q_480 q_481 q_67 q_482) rfl rfl rfl pdVX0_ofRoad ⟨Nat.le_of_ble_eq_true rfl, Nat.le_of_ble_eq_true rfl⟩) hK (hP.sub (ws' := [(a0_land, .inr (0, [.ref a0_land_counts, .ref a0_land_roads, .ref a0_land_bridges, .ref a0_land_waggons, .ref a0_land_parts, .ref a0_land_settings, .ref a0_land_trip, .int v_ow])), (a0_land_roads, .inl (E 0, 168, .inl fr))]) [1, 2] rfl) hG hS (va_recv hK hP (ci := 0) (q0 := 1) rfl rfl) rfl hl.1 rfl (Nat.le_of_ble_eq_true rfl) dX5_otherEnd_42 ⟨Nat.le_of_ble_eq_true rfl, Nat.le_of_ble_eq_true rfl⟩ ?_
      refine lv_goto (tgt := 49) hx hb dX5_otherEnd_45 (by decide) ?_
      exact W.iret (v := fr ((v_r * 7) + 0).toNatClampNeg) hx hb hr (fun t ht hW => ⟨fr ((v_r * 7) + 0).toNatClampNeg, rfl, by unfold fX5_otherEnd; rw [if_neg c_1, if_pos c_2], ht⟩) (fun q h => by cases h) dX5_otherEnd_49
  · refine lv_aload_n hx hb dX5_otherEnd_13 rfl (lv_at hl 0 rfl) ?_
    refine va_get (D := D) (ci := 5) (v := .ref a0_land) (C := RX5) (T := TX5) (N := 7) hx hb htg ig_5 hown hK hP 0 rfl rfl 0 (by decide) (htg _ q_167) (fun _ h9 => h9) rfl dX5_otherEnd_14 ?_
    refine lv_iload_n hx hb dX5_otherEnd_17 rfl (lv_at hl 1 rfl) ?_
    refine lv_iconst (v := 1) hx hb dX5_otherEnd_18 (by decide) ?_
    refine oh_pV (As := [.int v_r, .int 1]) (rest := []) (v := fr ((v_r * 7) + 1).toNatClampNeg) ⟨hx, hb, hml, hown, htg⟩ (c_X0_ofRoad l D E G a0_land v_r 1 a0_land_counts a0_land_roads a0_land_bridges a0_land_waggons a0_land_parts a0_land_settings a0_land_trip v_ow fr h0 (show vp_in 1 7 by unfold vp_in; decide)) (cwV 2 htg (oh_gV q_755 q_480 q_481 q_67 q_482) rfl rfl rfl pdVX0_ofRoad ⟨Nat.le_of_ble_eq_true rfl, Nat.le_of_ble_eq_true rfl⟩) hK (hP.sub (ws' := [(a0_land, .inr (0, [.ref a0_land_counts, .ref a0_land_roads, .ref a0_land_bridges, .ref a0_land_waggons, .ref a0_land_parts, .ref a0_land_settings, .ref a0_land_trip, .int v_ow])), (a0_land_roads, .inl (E 0, 168, .inl fr))]) [1, 2] rfl) hG hS (va_recv hK hP (ci := 0) (q0 := 1) rfl rfl) rfl hl.1 rfl (Nat.le_of_ble_eq_true rfl) dX5_otherEnd_19 ⟨Nat.le_of_ble_eq_true rfl, Nat.le_of_ble_eq_true rfl⟩ ?_
    exact W.iret (v := fr ((v_r * 7) + 1).toNatClampNeg) hx hb hr (fun t ht hW => ⟨fr ((v_r * 7) + 1).toNatClampNeg, rfl, by unfold fX5_otherEnd; rw [if_pos c_1], ht⟩) (fun q h => by cases h) dX5_otherEnd_22
set_option maxHeartbeats 4000000 in
set_option maxRecDepth 100000 in
theorem c_X5_setOut (l : Launch) (D : va_G) (E : Nat → ClassId) (G : Nat → Nat) (sz : Nat) (a0 : Nat) (v_f : Int32) (a0_land : Nat) (a0_pack : Nat) (a0_props : Nat) (a0_propCoin : Nat) (a0_price : Nat) (a0_far : Nat) (a0_walked : Nat) (g_walk : Nat → Int32) : Met l yX5_setOut (oh_w yX5_setOut cX5_setOut 2 none) ({ frames := 0, cells := 0, slots := 0, locals := 0 }) (oh_Pm D E G [.ref a0, .int v_f] [(a0, .inr (5, [.ref a0_land, .ref a0_pack, .ref a0_props, .ref a0_propCoin, .ref a0_price, .ref a0_far, .ref a0_walked])), (a0_walked, .inl (E 0, 4, .inl g_walk))] sz) (va_Qv (fun (_ : Unit) => True) (oh_B D (va_A [(a0, .inr (5, [.ref a0_land, .ref a0_pack, .ref a0_props, .ref a0_propCoin, .ref a0_price, .ref a0_far, .ref a0_walked])), (a0_walked, .inl (E 0, 4, .inl g_walk))] sz) (fun _ => [(a0, .inr (5, [.ref a0_land, .ref a0_pack, .ref a0_props, .ref a0_propCoin, .ref a0_price, .ref a0_far, .ref a0_walked])), (a0_walked, .inl (E 0, 4, .inl (upd (upd (upd (upd g_walk 0 0) 1 0) 2 0) 3 v_f)))])) (va_A [(a0, .inr (5, [.ref a0_land, .ref a0_pack, .ref a0_props, .ref a0_propCoin, .ref a0_price, .ref a0_far, .ref a0_walked])), (a0_walked, .inl (E 0, 4, .inl g_walk))] sz)) 0 0 (va_A [(a0, .inr (5, [.ref a0_land, .ref a0_pack, .ref a0_props, .ref a0_propCoin, .ref a0_price, .ref a0_far, .ref a0_walked])), (a0_walked, .inl (E 0, 4, .inl g_walk))] sz) := by
  refine Met.ofW (cc := cX5_setOut) (maxL := 2) (ret := none) (by decide) rfl ?_
  intro p e s m args below meth c s₁ B hml hv
  obtain ⟨rfl, hsz, hP, hK, hD0, hG⟩ := hv
  have hx := B.exec
  have hb := B.bytes
  have hr := B.returns
  have hts := atoms_spec (ws := (oh_w yX5_setOut cX5_setOut 2 none)) B.pre
  have htg : ∀ w ∈ oh_t, w.before _ s = true := fun w h => hts w (List.mem_cons_of_mem _ h)
  have hown : s.vm.findClass RX5 = some m.cls := findClass_of_methodNamed B.named
  have hlocks := B.notSynchronized
  subst hsz
  have hD := hD0.self (sz := s.heap.size)
  generalize hAe : va_A [(a0, .inr (5, [.ref a0_land, .ref a0_pack, .ref a0_props, .ref a0_propCoin, .ref a0_price, .ref a0_far, .ref a0_walked])), (a0_walked, .inl (E 0, 4, .inl g_walk))] s.heap.size = A at hD hG ⊢
  have hA : ∀ q : Nat, s.heap.size ≤ q → A q := fun q h => by rw [← hAe]; exact Or.inr h
  have hS : va_S A s.heap s.heap [] := va_S.rf
  have hP : va_P D vwCl [(a0, .inr (5, [.ref a0_land, .ref a0_pack, .ref a0_props, .ref a0_propCoin, .ref a0_price, .ref a0_far, .ref a0_walked])), (a0_walked, .inl (E 0, 4, .inl g_walk))] s.heap := hP
  have hl := lv_entry ([.ref a0, .int v_f]) (n := 2) (Nat.le_of_ble_eq_true rfl)
  rw [lg_entry_eq]
  generalize (lg_sl ([.ref a0, .int v_f]) ++ List.replicate (2 - (lg_sl ([.ref a0, .int v_f])).length) Slot.unset).toArray = ls at hl ⊢
  have hl : lv_has ls 2 [(0, .ref a0), (1, .int v_f)] := hl
  refine lv_aload_n hx hb dX5_setOut_0 rfl (lv_at hl 0 rfl) ?_
  refine va_get (D := D) (ci := 5) (v := .ref a0_walked) (C := RX5) (T := TX5) (N := 7) hx hb htg ig_5 hown hK hP 0 rfl rfl 6 (by decide) (htg _ q_175) (fun _ h9 => h9) rfl dX5_setOut_1 ?_
  refine lv_iconst (v := 0) hx hb dX5_setOut_4 (by decide) ?_
  refine lv_iconst (v := 0) hx hb dX5_setOut_5 (by decide) ?_
  refine va_iast hx hb hK hP hD hS 1 0 rfl rfl (show vp_in 0 4 by unfold vp_in; decide) dX5_setOut_6 (fun H locs hP hD hS => ?_)
  have hP : va_P D vwCl [(a0, .inr (5, [.ref a0_land, .ref a0_pack, .ref a0_props, .ref a0_propCoin, .ref a0_price, .ref a0_far, .ref a0_walked])), (a0_walked, .inl (E 0, 4, .inl (upd g_walk 0 0)))] H := hP
  have hD : va_D A [(a0, .inr (5, [.ref a0_land, .ref a0_pack, .ref a0_props, .ref a0_propCoin, .ref a0_price, .ref a0_far, .ref a0_walked])), (a0_walked, .inl (E 0, 4, .inl (upd g_walk 0 0)))] := hD
  refine lv_aload_n hx hb dX5_setOut_7 rfl (lv_at hl 0 rfl) ?_
  refine va_get (D := D) (ci := 5) (v := .ref a0_walked) (C := RX5) (T := TX5) (N := 7) hx hb htg ig_5 hown hK hP 0 rfl rfl 6 (by decide) (htg _ q_175) (fun _ h9 => h9) rfl dX5_setOut_8 ?_
  refine lv_iconst (v := 1) hx hb dX5_setOut_11 (by decide) ?_
  refine lv_iconst (v := 0) hx hb dX5_setOut_12 (by decide) ?_
  refine va_iast hx hb hK hP hD hS 1 0 rfl rfl (show vp_in 1 4 by unfold vp_in; decide) dX5_setOut_13 (fun H locs hP hD hS => ?_)
  have hP : va_P D vwCl [(a0, .inr (5, [.ref a0_land, .ref a0_pack, .ref a0_props, .ref a0_propCoin, .ref a0_price, .ref a0_far, .ref a0_walked])), (a0_walked, .inl (E 0, 4, .inl (upd (upd g_walk 0 0) 1 0)))] H := hP
  have hD : va_D A [(a0, .inr (5, [.ref a0_land, .ref a0_pack, .ref a0_props, .ref a0_propCoin, .ref a0_price, .ref a0_far, .ref a0_walked])), (a0_walked, .inl (E 0, 4, .inl (upd (upd g_walk 0 0) 1 0)))] := hD
  refine lv_aload_n hx hb dX5_setOut_14 rfl (lv_at hl 0 rfl) ?_
  refine va_get (D := D) (ci := 5) (v := .ref a0_walked) (C := RX5) (T := TX5) (N := 7) hx hb htg ig_5 hown hK hP 0 rfl rfl 6 (by decide) (htg _ q_175) (fun _ h9 => h9) rfl dX5_setOut_15 ?_
  refine lv_iconst (v := 2) hx hb dX5_setOut_18 (by decide) ?_
  refine lv_iconst (v := 0) hx hb dX5_setOut_19 (by decide) ?_
  refine va_iast hx hb hK hP hD hS 1 0 rfl rfl (show vp_in 2 4 by unfold vp_in; decide) dX5_setOut_20 (fun H locs hP hD hS => ?_)
  have hP : va_P D vwCl [(a0, .inr (5, [.ref a0_land, .ref a0_pack, .ref a0_props, .ref a0_propCoin, .ref a0_price, .ref a0_far, .ref a0_walked])), (a0_walked, .inl (E 0, 4, .inl (upd (upd (upd g_walk 0 0) 1 0) 2 0)))] H := hP
  have hD : va_D A [(a0, .inr (5, [.ref a0_land, .ref a0_pack, .ref a0_props, .ref a0_propCoin, .ref a0_price, .ref a0_far, .ref a0_walked])), (a0_walked, .inl (E 0, 4, .inl (upd (upd (upd g_walk 0 0) 1 0) 2 0)))] := hD
  refine lv_aload_n hx hb dX5_setOut_21 rfl (lv_at hl 0 rfl) ?_
  refine va_get (D := D) (ci := 5) (v := .ref a0_walked) (C := RX5) (T := TX5) (N := 7) hx hb htg ig_5 hown hK hP 0 rfl rfl 6 (by decide) (htg _ q_175) (fun _ h9 => h9) rfl dX5_setOut_22 ?_
  refine lv_iconst (v := 3) hx hb dX5_setOut_25 (by decide) ?_
  refine lv_iload_n hx hb dX5_setOut_26 rfl (lv_at hl 1 rfl) ?_
  refine va_iast hx hb hK hP hD hS 1 0 rfl rfl (show vp_in 3 4 by unfold vp_in; decide) dX5_setOut_27 (fun H locs hP hD hS => ?_)
  have hP : va_P D vwCl [(a0, .inr (5, [.ref a0_land, .ref a0_pack, .ref a0_props, .ref a0_propCoin, .ref a0_price, .ref a0_far, .ref a0_walked])), (a0_walked, .inl (E 0, 4, .inl (upd (upd (upd (upd g_walk 0 0) 1 0) 2 0) 3 v_f)))] H := hP
  have hD : va_D A [(a0, .inr (5, [.ref a0_land, .ref a0_pack, .ref a0_props, .ref a0_propCoin, .ref a0_price, .ref a0_far, .ref a0_walked])), (a0_walked, .inl (E 0, 4, .inl (upd (upd (upd (upd g_walk 0 0) 1 0) 2 0) 3 v_f)))] := hD
  refine W.widen (k := 0) (n := 0) (Nat.le_of_ble_eq_true rfl) (Nat.le_of_ble_eq_true rfl) ?_
  exact W.vret hx hb hr (fun t ht hW => ⟨⟨(), rfl, trivial, ⟨by rw [ht]; exact hP.sub [0, 1] rfl, hD.sub [0, 1] (by decide) rfl⟩⟩, hS.F ht⟩) hS.2.2 dX5_setOut_28
def fX3_holdsNothing (v_s : Int32) (g_held : Nat → Int32) : Int32 :=
  if (g_held (v_s).toNatClampNeg) = (-1) then 1 else 0
theorem fX3_holdsNothing_b (v_s : Int32) (g_held : Nat → Int32) : fX3_holdsNothing v_s g_held = 0 ∨ fX3_holdsNothing v_s g_held = 1 := by
  unfold fX3_holdsNothing
  repeat' split
  all_goals first | exact Or.inl rfl | exact Or.inr rfl
set_option maxHeartbeats 4000000 in
set_option maxRecDepth 100000 in
theorem c_X3_holdsNothing (l : Launch) (D : va_G) (E : Nat → ClassId) (G : Nat → Nat) (a0 : Nat) (v_s : Int32) (a0_held : Nat) (a0_size : Nat) (a0_cells : Nat) (g_held : Nat → Int32) (h0 : vp_in v_s 8) : Met l yX3_holdsNothing (oh_w yX3_holdsNothing cX3_holdsNothing 2 (some .boolean)) ({ frames := 0, cells := 0, slots := 0, locals := 0 }) (oh_Pp D E G [.ref a0, .int v_s] [(a0, .inr (3, [.ref a0_held, .ref a0_size, .ref a0_cells])), (a0_held, .inl (E 0, 8, .inl g_held))]) (vp_Si (fun r => r = fX3_holdsNothing v_s g_held)) 0 0 (fun _ => False) := by
  refine Met.ofW (cc := cX3_holdsNothing) (maxL := 2) (ret := (some .boolean)) (by decide) rfl ?_
  intro p e s m args below meth c s₁ B hml hv
  obtain ⟨rfl, hP, hK, hG⟩ := hv
  have hx := B.exec
  have hb := B.bytes
  have hr := B.returns
  have hts := atoms_spec (ws := (oh_w yX3_holdsNothing cX3_holdsNothing 2 (some .boolean))) B.pre
  have htg : ∀ w ∈ oh_t, w.before _ s = true := fun w h => hts w (List.mem_cons_of_mem _ h)
  have hown : s.vm.findClass RX3 = some m.cls := findClass_of_methodNamed B.named
  have hlocks := B.notSynchronized
  have hS : va_S (fun _ => False) s.heap s.heap [] := va_S.rf
  have hl := lv_entry ([.ref a0, .int v_s]) (n := 2) (Nat.le_of_ble_eq_true rfl)
  rw [lg_entry_eq]
  generalize (lg_sl ([.ref a0, .int v_s]) ++ List.replicate (2 - (lg_sl ([.ref a0, .int v_s])).length) Slot.unset).toArray = ls at hl ⊢
  have hl : lv_has ls 2 [(0, .ref a0), (1, .int v_s)] := hl
  refine lv_aload_n hx hb dX3_holdsNothing_0 rfl (lv_at hl 0 rfl) ?_
  refine va_get (D := D) (ci := 3) (v := .ref a0_held) (C := RX3) (T := TX3) (N := 3) hx hb htg ig_3 hown hK hP 0 rfl rfl 0 (by decide) (htg _ q_198) (fun _ h9 => h9) rfl dX3_holdsNothing_1 ?_
  refine lv_iload_n hx hb dX3_holdsNothing_4 rfl (lv_at hl 1 rfl) ?_
  refine va_iald hx hb hK hP 1 0 rfl rfl h0 dX3_holdsNothing_5 ?_
  refine lv_iconst (v := (-1)) hx hb dX3_holdsNothing_6 (by decide) ?_
  refine lv_icmp_ne (tgt := 14) hx hb dX3_holdsNothing_7 (by decide) (fun (c_1 : ¬ ((g_held (v_s).toNatClampNeg) = (-1))) => ?_) (fun (c_1 : (g_held (v_s).toNatClampNeg) = (-1)) => ?_)
  · refine lv_iconst (v := 0) hx hb dX3_holdsNothing_14 (by decide) ?_
    exact W.zret (v := 0) (ty := .boolean) hx hb hr (by decide) (fun t ht hW => ⟨0, rfl, by unfold fX3_holdsNothing; rw [if_neg c_1], ht⟩) (fun q h => by cases h) dX3_holdsNothing_15
  · refine lv_iconst (v := 1) hx hb dX3_holdsNothing_10 (by decide) ?_
    refine lv_goto (tgt := 15) hx hb dX3_holdsNothing_11 (by decide) ?_
    exact W.zret (v := 1) (ty := .boolean) hx hb hr (by decide) (fun t ht hW => ⟨1, rfl, by unfold fX3_holdsNothing; rw [if_pos c_1], ht⟩) (fun q h => by cases h) dX3_holdsNothing_15
def fX3_holdsBridge (v_s : Int32) (g_held : Nat → Int32) : Int32 :=
  if (g_held (v_s).toNatClampNeg) < 10 then 0 else 1
theorem fX3_holdsBridge_b (v_s : Int32) (g_held : Nat → Int32) : fX3_holdsBridge v_s g_held = 0 ∨ fX3_holdsBridge v_s g_held = 1 := by
  unfold fX3_holdsBridge
  repeat' split
  all_goals first | exact Or.inl rfl | exact Or.inr rfl
set_option maxHeartbeats 4000000 in
set_option maxRecDepth 100000 in
theorem c_X3_holdsBridge (l : Launch) (D : va_G) (E : Nat → ClassId) (G : Nat → Nat) (a0 : Nat) (v_s : Int32) (a0_held : Nat) (a0_size : Nat) (a0_cells : Nat) (g_held : Nat → Int32) (h0 : vp_in v_s 8) : Met l yX3_holdsBridge (oh_w yX3_holdsBridge cX3_holdsBridge 2 (some .boolean)) ({ frames := 0, cells := 0, slots := 0, locals := 0 }) (oh_Pp D E G [.ref a0, .int v_s] [(a0, .inr (3, [.ref a0_held, .ref a0_size, .ref a0_cells])), (a0_held, .inl (E 0, 8, .inl g_held))]) (vp_Si (fun r => r = fX3_holdsBridge v_s g_held)) 0 0 (fun _ => False) := by
  refine Met.ofW (cc := cX3_holdsBridge) (maxL := 2) (ret := (some .boolean)) (by decide) rfl ?_
  intro p e s m args below meth c s₁ B hml hv
  obtain ⟨rfl, hP, hK, hG⟩ := hv
  have hx := B.exec
  have hb := B.bytes
  have hr := B.returns
  have hts := atoms_spec (ws := (oh_w yX3_holdsBridge cX3_holdsBridge 2 (some .boolean))) B.pre
  have htg : ∀ w ∈ oh_t, w.before _ s = true := fun w h => hts w (List.mem_cons_of_mem _ h)
  have hown : s.vm.findClass RX3 = some m.cls := findClass_of_methodNamed B.named
  have hlocks := B.notSynchronized
  have hS : va_S (fun _ => False) s.heap s.heap [] := va_S.rf
  have hl := lv_entry ([.ref a0, .int v_s]) (n := 2) (Nat.le_of_ble_eq_true rfl)
  rw [lg_entry_eq]
  generalize (lg_sl ([.ref a0, .int v_s]) ++ List.replicate (2 - (lg_sl ([.ref a0, .int v_s])).length) Slot.unset).toArray = ls at hl ⊢
  have hl : lv_has ls 2 [(0, .ref a0), (1, .int v_s)] := hl
  refine lv_aload_n hx hb dX3_holdsBridge_0 rfl (lv_at hl 0 rfl) ?_
  refine va_get (D := D) (ci := 3) (v := .ref a0_held) (C := RX3) (T := TX3) (N := 3) hx hb htg ig_3 hown hK hP 0 rfl rfl 0 (by decide) (htg _ q_198) (fun _ h9 => h9) rfl dX3_holdsBridge_1 ?_
  refine lv_iload_n hx hb dX3_holdsBridge_4 rfl (lv_at hl 1 rfl) ?_
  refine va_iald hx hb hK hP 1 0 rfl rfl h0 dX3_holdsBridge_5 ?_
  refine lv_bipush (v := 10) hx hb dX3_holdsBridge_6 (by decide) ?_
  refine lv_icmp_lt (tgt := 15) hx hb dX3_holdsBridge_8 (by decide) (fun (c_1 : (g_held (v_s).toNatClampNeg) < 10) => ?_) (fun (c_1 : ¬ ((g_held (v_s).toNatClampNeg) < 10)) => ?_)
  · refine lv_iconst (v := 0) hx hb dX3_holdsBridge_15 (by decide) ?_
    exact W.zret (v := 0) (ty := .boolean) hx hb hr (by decide) (fun t ht hW => ⟨0, rfl, by unfold fX3_holdsBridge; rw [if_pos c_1], ht⟩) (fun q h => by cases h) dX3_holdsBridge_16
  · refine lv_iconst (v := 1) hx hb dX3_holdsBridge_11 (by decide) ?_
    refine lv_goto (tgt := 16) hx hb dX3_holdsBridge_12 (by decide) ?_
    exact W.zret (v := 1) (ty := .boolean) hx hb hr (by decide) (fun t ht hW => ⟨1, rfl, by unfold fX3_holdsBridge; rw [if_neg c_1], ht⟩) (fun q h => by cases h) dX3_holdsBridge_16
def fX3_holdsRow (v_s : Int32) (g_held : Nat → Int32) : Int32 :=
  if (fX3_holdsNothing v_s g_held) = 0 then (if (fX3_holdsBridge v_s g_held) = 0 then 1 else 0) else 0
theorem fX3_holdsRow_b (v_s : Int32) (g_held : Nat → Int32) : fX3_holdsRow v_s g_held = 0 ∨ fX3_holdsRow v_s g_held = 1 := by
  unfold fX3_holdsRow
  repeat' split
  all_goals first | exact Or.inl rfl | exact Or.inr rfl
set_option maxHeartbeats 4000000 in
set_option maxRecDepth 100000 in
theorem c_X3_holdsRow (l : Launch) (D : va_G) (E : Nat → ClassId) (G : Nat → Nat) (a0 : Nat) (v_s : Int32) (a0_held : Nat) (a0_size : Nat) (a0_cells : Nat) (g_held : Nat → Int32) (h0 : vp_in v_s 8) : Met l yX3_holdsRow (oh_w yX3_holdsRow cX3_holdsRow 2 (some .boolean)) ({ frames := 1, cells := 0, slots := 0, locals := 21 }) (oh_Pp D E G [.ref a0, .int v_s] [(a0, .inr (3, [.ref a0_held, .ref a0_size, .ref a0_cells])), (a0_held, .inl (E 0, 8, .inl g_held))]) (vp_Si (fun r => r = fX3_holdsRow v_s g_held)) 0 0 (fun _ => False) := by
  refine Met.ofW (cc := cX3_holdsRow) (maxL := 2) (ret := (some .boolean)) (by decide) rfl ?_
  intro p e s m args below meth c s₁ B hml hv
  obtain ⟨rfl, hP, hK, hG⟩ := hv
  have hx := B.exec
  have hb := B.bytes
  have hr := B.returns
  have hts := atoms_spec (ws := (oh_w yX3_holdsRow cX3_holdsRow 2 (some .boolean))) B.pre
  have htg : ∀ w ∈ oh_t, w.before _ s = true := fun w h => hts w (List.mem_cons_of_mem _ h)
  have hown : s.vm.findClass RX3 = some m.cls := findClass_of_methodNamed B.named
  have hlocks := B.notSynchronized
  have hS : va_S (fun _ => False) s.heap s.heap [] := va_S.rf
  have hl := lv_entry ([.ref a0, .int v_s]) (n := 2) (Nat.le_of_ble_eq_true rfl)
  rw [lg_entry_eq]
  generalize (lg_sl ([.ref a0, .int v_s]) ++ List.replicate (2 - (lg_sl ([.ref a0, .int v_s])).length) Slot.unset).toArray = ls at hl ⊢
  have hl : lv_has ls 2 [(0, .ref a0), (1, .int v_s)] := hl
  refine lv_aload_n hx hb dX3_holdsRow_0 rfl (lv_at hl 0 rfl) ?_
  refine lv_iload_n hx hb dX3_holdsRow_1 rfl (lv_at hl 1 rfl) ?_
  refine oh_pV (As := [.int v_s]) (rest := []) (v := fX3_holdsNothing v_s g_held) ⟨hx, hb, hml, hown, htg⟩ (c_X3_holdsNothing l D E G a0 v_s a0_held a0_size a0_cells g_held h0) (cwV 1 htg (oh_gV q_339 q_317 q_318 q_70 q_319) rfl rfl rfl pdVX3_holdsNothing ⟨Nat.le_of_ble_eq_true rfl, Nat.le_of_ble_eq_true rfl⟩) hK (hP.sub (ws' := [(a0, .inr (3, [.ref a0_held, .ref a0_size, .ref a0_cells])), (a0_held, .inl (E 0, 8, .inl g_held))]) [0, 1] rfl) hG hS (va_recv hK hP (ci := 3) (q0 := 0) rfl rfl) rfl hl.1 rfl (Nat.le_of_ble_eq_true rfl) dX3_holdsRow_2 ⟨Nat.le_of_ble_eq_true rfl, Nat.le_of_ble_eq_true rfl⟩ ?_
  refine lv_if_ne (tgt := 20) hx hb dX3_holdsRow_5 (by decide) (fun (c_1 : ¬ ((fX3_holdsNothing v_s g_held) = 0)) => ?_) (fun (c_1 : (fX3_holdsNothing v_s g_held) = 0) => ?_)
  · refine lv_iconst (v := 0) hx hb dX3_holdsRow_20 (by decide) ?_
    exact W.zret (v := 0) (ty := .boolean) hx hb hr (by decide) (fun t ht hW => ⟨0, rfl, by unfold fX3_holdsRow; rw [if_neg c_1], ht⟩) (fun q h => by cases h) dX3_holdsRow_21
  · refine lv_aload_n hx hb dX3_holdsRow_8 rfl (lv_at hl 0 rfl) ?_
    refine lv_iload_n hx hb dX3_holdsRow_9 rfl (lv_at hl 1 rfl) ?_
    refine oh_pV (As := [.int v_s]) (rest := []) (v := fX3_holdsBridge v_s g_held) ⟨hx, hb, hml, hown, htg⟩ (c_X3_holdsBridge l D E G a0 v_s a0_held a0_size a0_cells g_held h0) (cwV 1 htg (oh_gV q_340 q_313 q_314 q_70 q_315) rfl rfl rfl pdVX3_holdsBridge ⟨Nat.le_of_ble_eq_true rfl, Nat.le_of_ble_eq_true rfl⟩) hK (hP.sub (ws' := [(a0, .inr (3, [.ref a0_held, .ref a0_size, .ref a0_cells])), (a0_held, .inl (E 0, 8, .inl g_held))]) [0, 1] rfl) hG hS (va_recv hK hP (ci := 3) (q0 := 0) rfl rfl) rfl hl.1 rfl (Nat.le_of_ble_eq_true rfl) dX3_holdsRow_10 ⟨Nat.le_of_ble_eq_true rfl, Nat.le_of_ble_eq_true rfl⟩ ?_
    refine lv_if_ne (tgt := 20) hx hb dX3_holdsRow_13 (by decide) (fun (c_2 : ¬ ((fX3_holdsBridge v_s g_held) = 0)) => ?_) (fun (c_2 : (fX3_holdsBridge v_s g_held) = 0) => ?_)
    · refine lv_iconst (v := 0) hx hb dX3_holdsRow_20 (by decide) ?_
      exact W.zret (v := 0) (ty := .boolean) hx hb hr (by decide) (fun t ht hW => ⟨0, rfl, by unfold fX3_holdsRow; rw [if_pos c_1, if_neg c_2], ht⟩) (fun q h => by cases h) dX3_holdsRow_21
    · refine lv_iconst (v := 1) hx hb dX3_holdsRow_16 (by decide) ?_
      refine lv_goto (tgt := 21) hx hb dX3_holdsRow_17 (by decide) ?_
      exact W.zret (v := 1) (ty := .boolean) hx hb hr (by decide) (fun t ht hW => ⟨1, rfl, by unfold fX3_holdsRow; rw [if_pos c_1, if_pos c_2], ht⟩) (fun q h => by cases h) dX3_holdsRow_21
def fX3_holdsUnlikeRows (v_p : Int32) (v_q : Int32) (g_held : Nat → Int32) : Int32 :=
  if (fX3_holdsRow v_p g_held) = 0 then 0 else if (fX3_holdsRow v_q g_held) = 0 then 0 else if (g_held (v_p).toNatClampNeg) = (g_held (v_q).toNatClampNeg) then 0 else 1
theorem fX3_holdsUnlikeRows_b (v_p : Int32) (v_q : Int32) (g_held : Nat → Int32) : fX3_holdsUnlikeRows v_p v_q g_held = 0 ∨ fX3_holdsUnlikeRows v_p v_q g_held = 1 := by
  unfold fX3_holdsUnlikeRows
  repeat' split
  all_goals first | exact Or.inl rfl | exact Or.inr rfl
set_option maxHeartbeats 4000000 in
set_option maxRecDepth 100000 in
theorem c_X3_holdsUnlikeRows (l : Launch) (D : va_G) (E : Nat → ClassId) (G : Nat → Nat) (a0 : Nat) (v_p : Int32) (v_q : Int32) (a0_held : Nat) (a0_size : Nat) (a0_cells : Nat) (g_held : Nat → Int32) (h0 : vp_in v_p 8) (h1 : vp_in v_q 8) : Met l yX3_holdsUnlikeRows (oh_w yX3_holdsUnlikeRows cX3_holdsUnlikeRows 3 (some .boolean)) ({ frames := 2, cells := 0, slots := 0, locals := 42 }) (oh_Pp D E G [.ref a0, .int v_p, .int v_q] [(a0, .inr (3, [.ref a0_held, .ref a0_size, .ref a0_cells])), (a0_held, .inl (E 0, 8, .inl g_held))]) (vp_Si (fun r => r = fX3_holdsUnlikeRows v_p v_q g_held)) 0 0 (fun _ => False) := by
  refine Met.ofW (cc := cX3_holdsUnlikeRows) (maxL := 3) (ret := (some .boolean)) (by decide) rfl ?_
  intro p e s m args below meth c s₁ B hml hv
  obtain ⟨rfl, hP, hK, hG⟩ := hv
  have hx := B.exec
  have hb := B.bytes
  have hr := B.returns
  have hts := atoms_spec (ws := (oh_w yX3_holdsUnlikeRows cX3_holdsUnlikeRows 3 (some .boolean))) B.pre
  have htg : ∀ w ∈ oh_t, w.before _ s = true := fun w h => hts w (List.mem_cons_of_mem _ h)
  have hown : s.vm.findClass RX3 = some m.cls := findClass_of_methodNamed B.named
  have hlocks := B.notSynchronized
  have hS : va_S (fun _ => False) s.heap s.heap [] := va_S.rf
  have hl := lv_entry ([.ref a0, .int v_p, .int v_q]) (n := 3) (Nat.le_of_ble_eq_true rfl)
  rw [lg_entry_eq]
  generalize (lg_sl ([.ref a0, .int v_p, .int v_q]) ++ List.replicate (3 - (lg_sl ([.ref a0, .int v_p, .int v_q])).length) Slot.unset).toArray = ls at hl ⊢
  have hl : lv_has ls 3 [(0, .ref a0), (1, .int v_p), (2, .int v_q)] := hl
  refine lv_aload_n hx hb dX3_holdsUnlikeRows_0 rfl (lv_at hl 0 rfl) ?_
  refine lv_iload_n hx hb dX3_holdsUnlikeRows_1 rfl (lv_at hl 1 rfl) ?_
  refine oh_pV (As := [.int v_p]) (rest := []) (v := fX3_holdsRow v_p g_held) ⟨hx, hb, hml, hown, htg⟩ (c_X3_holdsRow l D E G a0 v_p a0_held a0_size a0_cells g_held h0) (cwV 1 htg (oh_gV q_335 q_336 q_337 q_70 q_338) rfl rfl rfl pdVX3_holdsRow ⟨Nat.le_of_ble_eq_true rfl, Nat.le_of_ble_eq_true rfl⟩) hK (hP.sub (ws' := [(a0, .inr (3, [.ref a0_held, .ref a0_size, .ref a0_cells])), (a0_held, .inl (E 0, 8, .inl g_held))]) [0, 1] rfl) hG hS (va_recv hK hP (ci := 3) (q0 := 0) rfl rfl) rfl hl.1 rfl (Nat.le_of_ble_eq_true rfl) dX3_holdsUnlikeRows_2 ⟨Nat.le_of_ble_eq_true rfl, Nat.le_of_ble_eq_true rfl⟩ ?_
  refine lv_if_eq (tgt := 35) hx hb dX3_holdsUnlikeRows_5 (by decide) (fun (c_1 : (fX3_holdsRow v_p g_held) = 0) => ?_) (fun (c_1 : ¬ ((fX3_holdsRow v_p g_held) = 0)) => ?_)
  · refine lv_iconst (v := 0) hx hb dX3_holdsUnlikeRows_35 (by decide) ?_
    exact W.zret (v := 0) (ty := .boolean) hx hb hr (by decide) (fun t ht hW => ⟨0, rfl, by unfold fX3_holdsUnlikeRows; rw [if_pos c_1], ht⟩) (fun q h => by cases h) dX3_holdsUnlikeRows_36
  · refine lv_aload_n hx hb dX3_holdsUnlikeRows_8 rfl (lv_at hl 0 rfl) ?_
    refine lv_iload_n hx hb dX3_holdsUnlikeRows_9 rfl (lv_at hl 2 rfl) ?_
    refine oh_pV (As := [.int v_q]) (rest := []) (v := fX3_holdsRow v_q g_held) ⟨hx, hb, hml, hown, htg⟩ (c_X3_holdsRow l D E G a0 v_q a0_held a0_size a0_cells g_held h1) (cwV 1 htg (oh_gV q_335 q_336 q_337 q_70 q_338) rfl rfl rfl pdVX3_holdsRow ⟨Nat.le_of_ble_eq_true rfl, Nat.le_of_ble_eq_true rfl⟩) hK (hP.sub (ws' := [(a0, .inr (3, [.ref a0_held, .ref a0_size, .ref a0_cells])), (a0_held, .inl (E 0, 8, .inl g_held))]) [0, 1] rfl) hG hS (va_recv hK hP (ci := 3) (q0 := 0) rfl rfl) rfl hl.1 rfl (Nat.le_of_ble_eq_true rfl) dX3_holdsUnlikeRows_10 ⟨Nat.le_of_ble_eq_true rfl, Nat.le_of_ble_eq_true rfl⟩ ?_
    refine lv_if_eq (tgt := 35) hx hb dX3_holdsUnlikeRows_13 (by decide) (fun (c_2 : (fX3_holdsRow v_q g_held) = 0) => ?_) (fun (c_2 : ¬ ((fX3_holdsRow v_q g_held) = 0)) => ?_)
    · refine lv_iconst (v := 0) hx hb dX3_holdsUnlikeRows_35 (by decide) ?_
      exact W.zret (v := 0) (ty := .boolean) hx hb hr (by decide) (fun t ht hW => ⟨0, rfl, by unfold fX3_holdsUnlikeRows; rw [if_neg c_1, if_pos c_2], ht⟩) (fun q h => by cases h) dX3_holdsUnlikeRows_36
    · refine lv_aload_n hx hb dX3_holdsUnlikeRows_16 rfl (lv_at hl 0 rfl) ?_
      refine va_get (D := D) (ci := 3) (v := .ref a0_held) (C := RX3) (T := TX3) (N := 3) hx hb htg ig_3 hown hK hP 0 rfl rfl 0 (by decide) (htg _ q_198) (fun _ h9 => h9) rfl dX3_holdsUnlikeRows_17 ?_
      refine lv_iload_n hx hb dX3_holdsUnlikeRows_20 rfl (lv_at hl 1 rfl) ?_
      refine va_iald hx hb hK hP 1 0 rfl rfl h0 dX3_holdsUnlikeRows_21 ?_
      refine lv_aload_n hx hb dX3_holdsUnlikeRows_22 rfl (lv_at hl 0 rfl) ?_
      refine va_get (D := D) (ci := 3) (v := .ref a0_held) (C := RX3) (T := TX3) (N := 3) hx hb htg ig_3 hown hK hP 0 rfl rfl 0 (by decide) (htg _ q_198) (fun _ h9 => h9) rfl dX3_holdsUnlikeRows_23 ?_
      refine lv_iload_n hx hb dX3_holdsUnlikeRows_26 rfl (lv_at hl 2 rfl) ?_
      refine va_iald hx hb hK hP 1 0 rfl rfl h1 dX3_holdsUnlikeRows_27 ?_
      refine lv_icmp_eq (tgt := 35) hx hb dX3_holdsUnlikeRows_28 (by decide) (fun (c_3 : (g_held (v_p).toNatClampNeg) = (g_held (v_q).toNatClampNeg)) => ?_) (fun (c_3 : ¬ ((g_held (v_p).toNatClampNeg) = (g_held (v_q).toNatClampNeg))) => ?_)
      · refine lv_iconst (v := 0) hx hb dX3_holdsUnlikeRows_35 (by decide) ?_
        exact W.zret (v := 0) (ty := .boolean) hx hb hr (by decide) (fun t ht hW => ⟨0, rfl, by unfold fX3_holdsUnlikeRows; rw [if_neg c_1, if_neg c_2, if_pos c_3], ht⟩) (fun q h => by cases h) dX3_holdsUnlikeRows_36
      · refine lv_iconst (v := 1) hx hb dX3_holdsUnlikeRows_31 (by decide) ?_
        refine lv_goto (tgt := 36) hx hb dX3_holdsUnlikeRows_32 (by decide) ?_
        exact W.zret (v := 1) (ty := .boolean) hx hb hr (by decide) (fun t ht hW => ⟨1, rfl, by unfold fX3_holdsUnlikeRows; rw [if_neg c_1, if_neg c_2, if_neg c_3], ht⟩) (fun q h => by cases h) dX3_holdsUnlikeRows_36
set_option maxHeartbeats 4000000 in
set_option maxRecDepth 100000 in
theorem c_X3_putBridge (l : Launch) (D : va_G) (E : Nat → ClassId) (G : Nat → Nat) (sz : Nat) (a0 : Nat) (v_s : Int32) (v_b : Int32) (a0_held : Nat) (a0_size : Nat) (a0_cells : Nat) (g_held : Nat → Int32) (g_size : Nat → Int32) (h0 : vp_in v_s 8) : Met l yX3_putBridge (oh_w yX3_putBridge cX3_putBridge 3 none) ({ frames := 0, cells := 0, slots := 0, locals := 0 }) (oh_Pm D E G [.ref a0, .int v_s, .int v_b] [(a0, .inr (3, [.ref a0_held, .ref a0_size, .ref a0_cells])), (a0_held, .inl (E 0, 8, .inl g_held)), (a0_size, .inl (E 0, 8, .inl g_size))] sz) (va_Qv (fun (_ : (Nat → Int32)) => True) (oh_B D (va_A [(a0, .inr (3, [.ref a0_held, .ref a0_size, .ref a0_cells])), (a0_held, .inl (E 0, 8, .inl g_held)), (a0_size, .inl (E 0, 8, .inl g_size))] sz) (fun hv_a0_held => [(a0, .inr (3, [.ref a0_held, .ref a0_size, .ref a0_cells])), (a0_held, .inl (E 0, 8, .inl hv_a0_held)), (a0_size, .inl (E 0, 8, .inl (upd g_size ((v_s).toNatClampNeg) 0)))])) (va_A [(a0, .inr (3, [.ref a0_held, .ref a0_size, .ref a0_cells])), (a0_held, .inl (E 0, 8, .inl g_held)), (a0_size, .inl (E 0, 8, .inl g_size))] sz)) 0 0 (va_A [(a0, .inr (3, [.ref a0_held, .ref a0_size, .ref a0_cells])), (a0_held, .inl (E 0, 8, .inl g_held)), (a0_size, .inl (E 0, 8, .inl g_size))] sz) := by
  refine Met.ofW (cc := cX3_putBridge) (maxL := 3) (ret := none) (by decide) rfl ?_
  intro p e s m args below meth c s₁ B hml hv
  obtain ⟨rfl, hsz, hP, hK, hD0, hG⟩ := hv
  have hx := B.exec
  have hb := B.bytes
  have hr := B.returns
  have hts := atoms_spec (ws := (oh_w yX3_putBridge cX3_putBridge 3 none)) B.pre
  have htg : ∀ w ∈ oh_t, w.before _ s = true := fun w h => hts w (List.mem_cons_of_mem _ h)
  have hown : s.vm.findClass RX3 = some m.cls := findClass_of_methodNamed B.named
  have hlocks := B.notSynchronized
  subst hsz
  have hD := hD0.self (sz := s.heap.size)
  generalize hAe : va_A [(a0, .inr (3, [.ref a0_held, .ref a0_size, .ref a0_cells])), (a0_held, .inl (E 0, 8, .inl g_held)), (a0_size, .inl (E 0, 8, .inl g_size))] s.heap.size = A at hD hG ⊢
  have hA : ∀ q : Nat, s.heap.size ≤ q → A q := fun q h => by rw [← hAe]; exact Or.inr h
  have hS : va_S A s.heap s.heap [] := va_S.rf
  have hP : va_P D vwCl [(a0, .inr (3, [.ref a0_held, .ref a0_size, .ref a0_cells])), (a0_held, .inl (E 0, 8, .inl g_held)), (a0_size, .inl (E 0, 8, .inl g_size))] s.heap := hP
  have hl := lv_entry ([.ref a0, .int v_s, .int v_b]) (n := 3) (Nat.le_of_ble_eq_true rfl)
  rw [lg_entry_eq]
  generalize (lg_sl ([.ref a0, .int v_s, .int v_b]) ++ List.replicate (3 - (lg_sl ([.ref a0, .int v_s, .int v_b])).length) Slot.unset).toArray = ls at hl ⊢
  have hl : lv_has ls 3 [(0, .ref a0), (1, .int v_s), (2, .int v_b)] := hl
  refine lv_aload_n hx hb dX3_putBridge_0 rfl (lv_at hl 0 rfl) ?_
  refine va_get (D := D) (ci := 3) (v := .ref a0_held) (C := RX3) (T := TX3) (N := 3) hx hb htg ig_3 hown hK hP 0 rfl rfl 0 (by decide) (htg _ q_198) (fun _ h9 => h9) rfl dX3_putBridge_1 ?_
  refine lv_iload_n hx hb dX3_putBridge_4 rfl (lv_at hl 1 rfl) ?_
  refine lv_iload_n hx hb dX3_putBridge_5 rfl (lv_at hl 2 rfl) ?_
  refine lv_iconst (v := (-1)) hx hb dX3_putBridge_6 (by decide) ?_
  refine lv_icmp_ne (tgt := 14) hx hb dX3_putBridge_7 (by decide) (fun (c_1 : ¬ (v_b = (-1))) => ?_) (fun (c_1 : v_b = (-1)) => ?_)
  · refine lv_bipush (v := 10) hx hb dX3_putBridge_14 (by decide) ?_
    refine lv_iload_n hx hb dX3_putBridge_16 rfl (lv_at hl 2 rfl) ?_
    refine lv_iadd hx hb dX3_putBridge_17 ?_
    refine va_iast hx hb hK hP hD hS 1 0 rfl rfl h0 dX3_putBridge_18 (fun H locs hP hD hS => ?_)
    have hP : va_P D vwCl [(a0, .inr (3, [.ref a0_held, .ref a0_size, .ref a0_cells])), (a0_held, .inl (E 0, 8, .inl (upd g_held ((v_s).toNatClampNeg) (10 + v_b)))), (a0_size, .inl (E 0, 8, .inl g_size))] H := hP
    have hD : va_D A [(a0, .inr (3, [.ref a0_held, .ref a0_size, .ref a0_cells])), (a0_held, .inl (E 0, 8, .inl (upd g_held ((v_s).toNatClampNeg) (10 + v_b)))), (a0_size, .inl (E 0, 8, .inl g_size))] := hD
    refine lv_aload_n hx hb dX3_putBridge_19 rfl (lv_at hl 0 rfl) ?_
    refine va_get (D := D) (ci := 3) (v := .ref a0_size) (C := RX3) (T := TX3) (N := 3) hx hb htg ig_3 hown hK hP 0 rfl rfl 1 (by decide) (htg _ q_200) (fun _ h9 => h9) rfl dX3_putBridge_20 ?_
    refine lv_iload_n hx hb dX3_putBridge_23 rfl (lv_at hl 1 rfl) ?_
    refine lv_iconst (v := 0) hx hb dX3_putBridge_24 (by decide) ?_
    refine va_iast hx hb hK hP hD hS 2 0 rfl rfl h0 dX3_putBridge_25 (fun H locs hP hD hS => ?_)
    have hP : va_P D vwCl [(a0, .inr (3, [.ref a0_held, .ref a0_size, .ref a0_cells])), (a0_held, .inl (E 0, 8, .inl (upd g_held ((v_s).toNatClampNeg) (10 + v_b)))), (a0_size, .inl (E 0, 8, .inl (upd g_size ((v_s).toNatClampNeg) 0)))] H := hP
    have hD : va_D A [(a0, .inr (3, [.ref a0_held, .ref a0_size, .ref a0_cells])), (a0_held, .inl (E 0, 8, .inl (upd g_held ((v_s).toNatClampNeg) (10 + v_b)))), (a0_size, .inl (E 0, 8, .inl (upd g_size ((v_s).toNatClampNeg) 0)))] := hD
    refine W.widen (k := 0) (n := 0) (Nat.le_of_ble_eq_true rfl) (Nat.le_of_ble_eq_true rfl) ?_
    exact W.vret hx hb hr (fun t ht hW => ⟨⟨(upd g_held ((v_s).toNatClampNeg) (10 + v_b)), rfl, trivial, ⟨by rw [ht]; exact hP.sub [0, 1, 2] rfl, hD.sub [0, 1, 2] (by decide) rfl⟩⟩, hS.F ht⟩) hS.2.2 dX3_putBridge_26
  · refine lv_iconst (v := (-1)) hx hb dX3_putBridge_10 (by decide) ?_
    refine lv_goto (tgt := 18) hx hb dX3_putBridge_11 (by decide) ?_
    refine va_iast hx hb hK hP hD hS 1 0 rfl rfl h0 dX3_putBridge_18 (fun H locs hP hD hS => ?_)
    have hP : va_P D vwCl [(a0, .inr (3, [.ref a0_held, .ref a0_size, .ref a0_cells])), (a0_held, .inl (E 0, 8, .inl (upd g_held ((v_s).toNatClampNeg) (-1)))), (a0_size, .inl (E 0, 8, .inl g_size))] H := hP
    have hD : va_D A [(a0, .inr (3, [.ref a0_held, .ref a0_size, .ref a0_cells])), (a0_held, .inl (E 0, 8, .inl (upd g_held ((v_s).toNatClampNeg) (-1)))), (a0_size, .inl (E 0, 8, .inl g_size))] := hD
    refine lv_aload_n hx hb dX3_putBridge_19 rfl (lv_at hl 0 rfl) ?_
    refine va_get (D := D) (ci := 3) (v := .ref a0_size) (C := RX3) (T := TX3) (N := 3) hx hb htg ig_3 hown hK hP 0 rfl rfl 1 (by decide) (htg _ q_200) (fun _ h9 => h9) rfl dX3_putBridge_20 ?_
    refine lv_iload_n hx hb dX3_putBridge_23 rfl (lv_at hl 1 rfl) ?_
    refine lv_iconst (v := 0) hx hb dX3_putBridge_24 (by decide) ?_
    refine va_iast hx hb hK hP hD hS 2 0 rfl rfl h0 dX3_putBridge_25 (fun H locs hP hD hS => ?_)
    have hP : va_P D vwCl [(a0, .inr (3, [.ref a0_held, .ref a0_size, .ref a0_cells])), (a0_held, .inl (E 0, 8, .inl (upd g_held ((v_s).toNatClampNeg) (-1)))), (a0_size, .inl (E 0, 8, .inl (upd g_size ((v_s).toNatClampNeg) 0)))] H := hP
    have hD : va_D A [(a0, .inr (3, [.ref a0_held, .ref a0_size, .ref a0_cells])), (a0_held, .inl (E 0, 8, .inl (upd g_held ((v_s).toNatClampNeg) (-1)))), (a0_size, .inl (E 0, 8, .inl (upd g_size ((v_s).toNatClampNeg) 0)))] := hD
    refine W.widen (k := 0) (n := 0) (Nat.le_of_ble_eq_true rfl) (Nat.le_of_ble_eq_true rfl) ?_
    exact W.vret hx hb hr (fun t ht hW => ⟨⟨(upd g_held ((v_s).toNatClampNeg) (-1)), rfl, trivial, ⟨by rw [ht]; exact hP.sub [0, 1, 2] rfl, hD.sub [0, 1, 2] (by decide) rfl⟩⟩, hS.F ht⟩) hS.2.2 dX3_putBridge_26
