set_option maxHeartbeats 4000000 in
set_option maxRecDepth 100000 in
theorem c_X6_frost (l : Launch) (D : va_G) (E : Nat → ClassId) (G : Nat → Nat) (sz : Nat) (a0 : Nat) (v_a : Int32) (v_b : Int32) (v_c : Int32) (v_d : Int32) (v_e : Int32) (v_f : Int32) (v_g : Int32) (a0_now : Nat) (a0_kept : Nat) (a0_ways : Nat) (a0_shelves : Nat) (a0_tape : Nat) (a0_reader : Nat) (a0_refusals : Nat) (a0_bestPack : Nat) (a0_now_counts : Nat) (a0_now_roads : Nat) (a0_now_bridges : Nat) (a0_now_waggons : Nat) (a0_now_parts : Nat) (a0_now_settings : Nat) (a0_now_trip : Nat) : Met l yX6_frost (oh_w yX6_frost cX6_frost 11 (some .long)) ({ frames := 4, cells := 0, slots := 0, locals := 89 }) (oh_Pm D E G [.ref a0, .int v_a, .int v_b, .int v_c, .int v_d, .int v_e, .int v_f, .int v_g] [(a0, .inr (6, [.ref a0_now, .ref a0_kept, .int 0, .ref a0_ways, .ref a0_shelves, .ref a0_tape, .ref a0_reader, .ref a0_refusals, .ref a0_bestPack])), (a0_now, .inr (0, [.ref a0_now_counts, .ref a0_now_roads, .ref a0_now_bridges, .ref a0_now_waggons, .ref a0_now_parts, .ref a0_now_settings, .ref a0_now_trip, .int 0])), (a0_now_counts, .inl (E 0, 4, .inl (fun _ => 0))), (a0_refusals, .inl (E 0, 5, .inl (fun _ => 0)))] sz) (va_Ql (fun r (_ : Unit) => r = Int32.toInt64 (-2)) (oh_B D (va_A [(a0, .inr (6, [.ref a0_now, .ref a0_kept, .int 0, .ref a0_ways, .ref a0_shelves, .ref a0_tape, .ref a0_reader, .ref a0_refusals, .ref a0_bestPack])), (a0_now, .inr (0, [.ref a0_now_counts, .ref a0_now_roads, .ref a0_now_bridges, .ref a0_now_waggons, .ref a0_now_parts, .ref a0_now_settings, .ref a0_now_trip, .int 0])), (a0_now_counts, .inl (E 0, 4, .inl (fun _ => 0))), (a0_refusals, .inl (E 0, 5, .inl (fun _ => 0)))] sz) (fun _ => [])) (va_A [(a0, .inr (6, [.ref a0_now, .ref a0_kept, .int 0, .ref a0_ways, .ref a0_shelves, .ref a0_tape, .ref a0_reader, .ref a0_refusals, .ref a0_bestPack])), (a0_now, .inr (0, [.ref a0_now_counts, .ref a0_now_roads, .ref a0_now_bridges, .ref a0_now_waggons, .ref a0_now_parts, .ref a0_now_settings, .ref a0_now_trip, .int 0])), (a0_now_counts, .inl (E 0, 4, .inl (fun _ => 0))), (a0_refusals, .inl (E 0, 5, .inl (fun _ => 0)))] sz)) 0 0 (va_A [(a0, .inr (6, [.ref a0_now, .ref a0_kept, .int 0, .ref a0_ways, .ref a0_shelves, .ref a0_tape, .ref a0_reader, .ref a0_refusals, .ref a0_bestPack])), (a0_now, .inr (0, [.ref a0_now_counts, .ref a0_now_roads, .ref a0_now_bridges, .ref a0_now_waggons, .ref a0_now_parts, .ref a0_now_settings, .ref a0_now_trip, .int 0])), (a0_now_counts, .inl (E 0, 4, .inl (fun _ => 0))), (a0_refusals, .inl (E 0, 5, .inl (fun _ => 0)))] sz) := by
  refine Met.ofW (cc := cX6_frost) (maxL := 11) (ret := (some .long)) (by decide) rfl ?_
  intro p e s m args below meth c s₁ B hml hv
  obtain ⟨rfl, hsz, hP, hK, hD0, hG⟩ := hv
  have hx := B.exec
  have hb := B.bytes
  have hr := B.returns
  have hts := atoms_spec (ws := (oh_w yX6_frost cX6_frost 11 (some .long))) B.pre
  have htg : ∀ w ∈ oh_t, w.before _ s = true := fun w h => hts w (List.mem_cons_of_mem _ h)
  have hown : s.vm.findClass RX6 = some m.cls := findClass_of_methodNamed B.named
  have hlocks := B.notSynchronized
  subst hsz
  have hD := hD0.self (sz := s.heap.size)
  generalize hAe : va_A [(a0, .inr (6, [.ref a0_now, .ref a0_kept, .int 0, .ref a0_ways, .ref a0_shelves, .ref a0_tape, .ref a0_reader, .ref a0_refusals, .ref a0_bestPack])), (a0_now, .inr (0, [.ref a0_now_counts, .ref a0_now_roads, .ref a0_now_bridges, .ref a0_now_waggons, .ref a0_now_parts, .ref a0_now_settings, .ref a0_now_trip, .int 0])), (a0_now_counts, .inl (E 0, 4, .inl (fun _ => 0))), (a0_refusals, .inl (E 0, 5, .inl (fun _ => 0)))] s.heap.size = A at hD hG ⊢
  have hA : ∀ q : Nat, s.heap.size ≤ q → A q := fun q h => by rw [← hAe]; exact Or.inr h
  have hS : va_S A s.heap s.heap [] := va_S.rf
  have hP : va_P D vwCl [(a0, .inr (6, [.ref a0_now, .ref a0_kept, .int 0, .ref a0_ways, .ref a0_shelves, .ref a0_tape, .ref a0_reader, .ref a0_refusals, .ref a0_bestPack])), (a0_now, .inr (0, [.ref a0_now_counts, .ref a0_now_roads, .ref a0_now_bridges, .ref a0_now_waggons, .ref a0_now_parts, .ref a0_now_settings, .ref a0_now_trip, .int 0])), (a0_now_counts, .inl (E 0, 4, .inl (fun _ => 0))), (a0_refusals, .inl (E 0, 5, .inl (fun _ => 0)))] s.heap := hP
  have hl := lv_entry ([.ref a0, .int v_a, .int v_b, .int v_c, .int v_d, .int v_e, .int v_f, .int v_g]) (n := 11) (Nat.le_of_ble_eq_true rfl)
  rw [lg_entry_eq]
  generalize (lg_sl ([.ref a0, .int v_a, .int v_b, .int v_c, .int v_d, .int v_e, .int v_f, .int v_g]) ++ List.replicate (11 - (lg_sl ([.ref a0, .int v_a, .int v_b, .int v_c, .int v_d, .int v_e, .int v_f, .int v_g])).length) Slot.unset).toArray = ls at hl ⊢
  have hl : lv_has ls 11 [(0, .ref a0), (1, .int v_a), (2, .int v_b), (3, .int v_c), (4, .int v_d), (5, .int v_e), (6, .int v_f), (7, .int v_g)] := hl
  refine lv_aload_n hx hb dX6_frost_0 rfl (lv_at hl 0 rfl) ?_
  refine lv_iload_n hx hb dX6_frost_1 rfl (lv_at hl 1 rfl) ?_
  refine lv_iload_n hx hb dX6_frost_2 rfl (lv_at hl 2 rfl) ?_
  refine lv_iload_n hx hb dX6_frost_3 rfl (lv_at hl 3 rfl) ?_
  refine lv_iload hx hb dX6_frost_4 (lv_at hl 4 rfl) ?_
  refine oh_pV (As := [.int v_a, .int v_b, .int v_c, .int v_d]) (rest := []) (v := 0) ⟨hx, hb, hml, hown, htg⟩ (c_X6_isJourney l D E G a0 v_a v_b v_c v_d a0_now a0_kept a0_ways a0_shelves a0_tape a0_reader a0_refusals a0_bestPack a0_now_counts a0_now_roads a0_now_bridges a0_now_waggons a0_now_parts a0_now_settings a0_now_trip) (cwV 4 htg (oh_gV q_776 q_778 q_17 q_66 q_779) rfl rfl rfl pdVX6_isJourney ⟨Nat.le_of_ble_eq_true rfl, Nat.le_of_ble_eq_true rfl⟩) hK (hP.sub (ws' := [(a0, .inr (6, [.ref a0_now, .ref a0_kept, .int 0, .ref a0_ways, .ref a0_shelves, .ref a0_tape, .ref a0_reader, .ref a0_refusals, .ref a0_bestPack])), (a0_now, .inr (0, [.ref a0_now_counts, .ref a0_now_roads, .ref a0_now_bridges, .ref a0_now_waggons, .ref a0_now_parts, .ref a0_now_settings, .ref a0_now_trip, .int 0])), (a0_now_counts, .inl (E 0, 4, .inl (fun _ => 0)))]) [0, 1, 2] rfl) hG hS (va_recv hK hP (ci := 6) (q0 := 0) rfl rfl) rfl hl.1 rfl (Nat.le_of_ble_eq_true rfl) dX6_frost_6 ⟨Nat.le_of_ble_eq_true rfl, Nat.le_of_ble_eq_true rfl⟩ ?_
  refine lv_if_eq (tgt := 46) hx hb dX6_frost_9 (by decide) (fun _ => ?_) (fun c => absurd (show (0 : Int32) = 0 from by decide) c)
  refine lv_aload_n hx hb dX6_frost_46 rfl (lv_at hl 0 rfl) ?_
  refine lv_bipush (v := (-2)) hx hb dX6_frost_47 (by decide) ?_
  refine oh_mV (As := [.int (-2)]) (rest := []) (wr := [(a0_now, .inr (0, [.ref a0_now_counts, .ref a0_now_roads, .ref a0_now_bridges, .ref a0_now_waggons, .ref a0_now_parts, .ref a0_now_settings, .ref a0_now_trip, .int 0])), (a0_now_counts, .inl (E 0, 4, .inl (fun _ => 0)))]) ⟨hx, hb, hml, hown, htg⟩ (c_X6_refuse l D E G s.heap.size a0 (-2) a0_now a0_kept a0_ways a0_shelves a0_tape a0_reader a0_refusals a0_bestPack) (cwV 1 htg (oh_gV q_296 q_298 q_0 q_66 q_299) rfl rfl rfl pdVX6_refuse ⟨Nat.le_of_ble_eq_true rfl, Nat.le_of_ble_eq_true rfl⟩) hK hP hD hG hS hA [0, 3] [1, 2] rfl rfl (by decide) (by decide) (by decide) (va_recv hK hP (ci := 6) (q0 := 0) rfl rfl) rfl hl.1 rfl (Nat.le_of_ble_eq_true rfl) dX6_frost_49 ⟨Nat.le_of_ble_eq_true rfl, Nat.le_of_ble_eq_true rfl⟩ (fun r_1 u H locs hw hP hD hS => ?_)
  subst hw
  have hP : va_P D vwCl [(a0_now, .inr (0, [.ref a0_now_counts, .ref a0_now_roads, .ref a0_now_bridges, .ref a0_now_waggons, .ref a0_now_parts, .ref a0_now_settings, .ref a0_now_trip, .int 0])), (a0_now_counts, .inl (E 0, 4, .inl (fun _ => 0))), (a0, .inr (6, [.ref a0_now, .ref a0_kept, .int 0, .ref a0_ways, .ref a0_shelves, .ref a0_tape, .ref a0_reader, .ref a0_refusals, .ref a0_bestPack]))] H := hP
  have hD : va_D A [(a0_now, .inr (0, [.ref a0_now_counts, .ref a0_now_roads, .ref a0_now_bridges, .ref a0_now_waggons, .ref a0_now_parts, .ref a0_now_settings, .ref a0_now_trip, .int 0])), (a0_now_counts, .inl (E 0, 4, .inl (fun _ => 0))), (a0, .inr (6, [.ref a0_now, .ref a0_kept, .int 0, .ref a0_ways, .ref a0_shelves, .ref a0_tape, .ref a0_reader, .ref a0_refusals, .ref a0_bestPack]))] := hD
  refine W.widen (k := 0) (n := 0) (Nat.le_refl _) (Nat.le_refl _) ?_
  refine lv_i2l (v := Int32.toInt64 (-2)) hx hb dX6_frost_52 (by rfl) ?_
  refine W.widen (k := 0) (n := 0) (Nat.le_of_ble_eq_true rfl) (Nat.le_of_ble_eq_true rfl) ?_
  exact W.lret (v := Int32.toInt64 (-2)) hx hb hr (fun t ht hW => ⟨⟨Int32.toInt64 (-2), (), rfl, rfl, ⟨by rw [ht]; exact hP.sub [] rfl, hD.sub [] (by decide) rfl⟩⟩, hS.F ht⟩) hS.2.2 dX6_frost_53
set_option maxHeartbeats 4000000 in
set_option maxRecDepth 100000 in
theorem c_X6_step (l : Launch) (D : va_G) (E : Nat → ClassId) (G : Nat → Nat) (sz : Nat) (a0 : Nat) (a0_now : Nat) (a0_kept : Nat) (a0_ways : Nat) (a0_shelves : Nat) (a0_tape : Nat) (a0_reader : Nat) (a0_refusals : Nat) (a0_bestPack : Nat) (a0_now_counts : Nat) (a0_now_roads : Nat) (a0_now_bridges : Nat) (a0_now_waggons : Nat) (a0_now_parts : Nat) (a0_now_settings : Nat) (a0_now_trip : Nat) : Met l yX6_step (oh_w yX6_step cX6_step 3 (some .int)) ({ frames := 2, cells := 0, slots := 0, locals := 44 }) (oh_Pm D E G [.ref a0] [(a0, .inr (6, [.ref a0_now, .ref a0_kept, .int 0, .ref a0_ways, .ref a0_shelves, .ref a0_tape, .ref a0_reader, .ref a0_refusals, .ref a0_bestPack])), (a0_now, .inr (0, [.ref a0_now_counts, .ref a0_now_roads, .ref a0_now_bridges, .ref a0_now_waggons, .ref a0_now_parts, .ref a0_now_settings, .ref a0_now_trip, .int 0])), (a0_refusals, .inl (E 0, 5, .inl (fun _ => 0)))] sz) (va_Qi (fun r (_ : Unit) => r = (-5)) (oh_B D (va_A [(a0, .inr (6, [.ref a0_now, .ref a0_kept, .int 0, .ref a0_ways, .ref a0_shelves, .ref a0_tape, .ref a0_reader, .ref a0_refusals, .ref a0_bestPack])), (a0_now, .inr (0, [.ref a0_now_counts, .ref a0_now_roads, .ref a0_now_bridges, .ref a0_now_waggons, .ref a0_now_parts, .ref a0_now_settings, .ref a0_now_trip, .int 0])), (a0_refusals, .inl (E 0, 5, .inl (fun _ => 0)))] sz) (fun _ => [])) (va_A [(a0, .inr (6, [.ref a0_now, .ref a0_kept, .int 0, .ref a0_ways, .ref a0_shelves, .ref a0_tape, .ref a0_reader, .ref a0_refusals, .ref a0_bestPack])), (a0_now, .inr (0, [.ref a0_now_counts, .ref a0_now_roads, .ref a0_now_bridges, .ref a0_now_waggons, .ref a0_now_parts, .ref a0_now_settings, .ref a0_now_trip, .int 0])), (a0_refusals, .inl (E 0, 5, .inl (fun _ => 0)))] sz)) 0 0 (va_A [(a0, .inr (6, [.ref a0_now, .ref a0_kept, .int 0, .ref a0_ways, .ref a0_shelves, .ref a0_tape, .ref a0_reader, .ref a0_refusals, .ref a0_bestPack])), (a0_now, .inr (0, [.ref a0_now_counts, .ref a0_now_roads, .ref a0_now_bridges, .ref a0_now_waggons, .ref a0_now_parts, .ref a0_now_settings, .ref a0_now_trip, .int 0])), (a0_refusals, .inl (E 0, 5, .inl (fun _ => 0)))] sz) := by
  refine Met.ofW (cc := cX6_step) (maxL := 3) (ret := (some .int)) (by decide) rfl ?_
  intro p e s m args below meth c s₁ B hml hv
  obtain ⟨rfl, hsz, hP, hK, hD0, hG⟩ := hv
  have hx := B.exec
  have hb := B.bytes
  have hr := B.returns
  have hts := atoms_spec (ws := (oh_w yX6_step cX6_step 3 (some .int))) B.pre
  have htg : ∀ w ∈ oh_t, w.before _ s = true := fun w h => hts w (List.mem_cons_of_mem _ h)
  have hown : s.vm.findClass RX6 = some m.cls := findClass_of_methodNamed B.named
  have hlocks := B.notSynchronized
  subst hsz
  have hD := hD0.self (sz := s.heap.size)
  generalize hAe : va_A [(a0, .inr (6, [.ref a0_now, .ref a0_kept, .int 0, .ref a0_ways, .ref a0_shelves, .ref a0_tape, .ref a0_reader, .ref a0_refusals, .ref a0_bestPack])), (a0_now, .inr (0, [.ref a0_now_counts, .ref a0_now_roads, .ref a0_now_bridges, .ref a0_now_waggons, .ref a0_now_parts, .ref a0_now_settings, .ref a0_now_trip, .int 0])), (a0_refusals, .inl (E 0, 5, .inl (fun _ => 0)))] s.heap.size = A at hD hG ⊢
  have hA : ∀ q : Nat, s.heap.size ≤ q → A q := fun q h => by rw [← hAe]; exact Or.inr h
  have hS : va_S A s.heap s.heap [] := va_S.rf
  have hP : va_P D vwCl [(a0, .inr (6, [.ref a0_now, .ref a0_kept, .int 0, .ref a0_ways, .ref a0_shelves, .ref a0_tape, .ref a0_reader, .ref a0_refusals, .ref a0_bestPack])), (a0_now, .inr (0, [.ref a0_now_counts, .ref a0_now_roads, .ref a0_now_bridges, .ref a0_now_waggons, .ref a0_now_parts, .ref a0_now_settings, .ref a0_now_trip, .int 0])), (a0_refusals, .inl (E 0, 5, .inl (fun _ => 0)))] s.heap := hP
  have hl := lv_entry ([.ref a0]) (n := 3) (Nat.le_of_ble_eq_true rfl)
  rw [lg_entry_eq]
  generalize (lg_sl ([.ref a0]) ++ List.replicate (3 - (lg_sl ([.ref a0])).length) Slot.unset).toArray = ls at hl ⊢
  have hl : lv_has ls 3 [(0, .ref a0)] := hl
  refine lv_aload_n hx hb dX6_step_0 rfl (lv_at hl 0 rfl) ?_
  refine va_get (D := D) (ci := 6) (v := .ref a0_now) (C := RX6) (T := TX6) (N := 9) hx hb htg ig_6 hown hK hP 0 rfl rfl 0 (by decide) (htg _ q_258) (fun _ h9 => h9) rfl dX6_step_1 ?_
  refine va_get (D := D) (ci := 0) (v := .ref a0_now_trip) (C := RX0) (T := TX0) (N := 8) hx hb htg ig_0 hown hK hP 1 rfl rfl 6 (by decide) (htg _ q_112) (fun _ h9 => h9) rfl dX6_step_4 ?_
  refine lv_astore_n (lv' := [(1, .ref a0_now_trip), (0, .ref a0)]) hx hb dX6_step_7 rfl hl (by decide) rfl (fun ls hl => ?_)
  refine lv_aload_n hx hb dX6_step_8 rfl (lv_at hl 1 rfl) ?_
  refine va_get (D := D) (ci := 6) (v := .ref a0_now) (C := RX6) (T := TX6) (N := 9) hx hb htg ig_6 hown hK hP 0 rfl rfl 0 (by decide) (htg _ q_258) (fun _ h9 => h9) rfl dX6_step_9 ?_
  refine va_get (D := D) (ci := 0) (v := .int 0) (C := RX0) (T := TX0) (N := 8) hx hb htg ig_0 hown hK hP 1 rfl rfl 7 (by decide) (htg _ q_114) (fun _ h9 => h9) rfl dX6_step_12 ?_
  refine lv_if_eq (tgt := 27) hx hb dX6_step_15 (by decide) (fun _ => ?_) (fun c => absurd (show (0 : Int32) = 0 from by decide) c)
  refine lv_aload_n hx hb dX6_step_27 rfl (lv_at hl 1 rfl) ?_
  refine lv_bipush (v := (-5)) hx hb dX6_step_28 (by decide) ?_
  refine oh_mV (As := [.int (-5)]) (rest := []) (wr := [(a0_now, .inr (0, [.ref a0_now_counts, .ref a0_now_roads, .ref a0_now_bridges, .ref a0_now_waggons, .ref a0_now_parts, .ref a0_now_settings, .ref a0_now_trip, .int 0]))]) ⟨hx, hb, hml, hown, htg⟩ (c_X6_refuse l D E G s.heap.size a0 (-5) a0_now a0_kept a0_ways a0_shelves a0_tape a0_reader a0_refusals a0_bestPack) (cwV 1 htg (oh_gV q_296 q_298 q_0 q_66 q_299) rfl rfl rfl pdVX6_refuse ⟨Nat.le_of_ble_eq_true rfl, Nat.le_of_ble_eq_true rfl⟩) hK hP hD hG hS hA [0, 2] [1] rfl rfl (by decide) (by decide) (by decide) (va_recv hK hP (ci := 6) (q0 := 0) rfl rfl) rfl hl.1 rfl (Nat.le_of_ble_eq_true rfl) dX6_step_30 ⟨Nat.le_of_ble_eq_true rfl, Nat.le_of_ble_eq_true rfl⟩ (fun r_1 u H locs hw hP hD hS => ?_)
  subst hw
  have hP : va_P D vwCl [(a0_now, .inr (0, [.ref a0_now_counts, .ref a0_now_roads, .ref a0_now_bridges, .ref a0_now_waggons, .ref a0_now_parts, .ref a0_now_settings, .ref a0_now_trip, .int 0])), (a0, .inr (6, [.ref a0_now, .ref a0_kept, .int 0, .ref a0_ways, .ref a0_shelves, .ref a0_tape, .ref a0_reader, .ref a0_refusals, .ref a0_bestPack]))] H := hP
  have hD : va_D A [(a0_now, .inr (0, [.ref a0_now_counts, .ref a0_now_roads, .ref a0_now_bridges, .ref a0_now_waggons, .ref a0_now_parts, .ref a0_now_settings, .ref a0_now_trip, .int 0])), (a0, .inr (6, [.ref a0_now, .ref a0_kept, .int 0, .ref a0_ways, .ref a0_shelves, .ref a0_tape, .ref a0_reader, .ref a0_refusals, .ref a0_bestPack]))] := hD
  refine W.widen (k := 0) (n := 0) (Nat.le_refl _) (Nat.le_refl _) ?_
  refine W.widen (k := 0) (n := 0) (Nat.le_of_ble_eq_true rfl) (Nat.le_of_ble_eq_true rfl) ?_
  exact W.iret (v := (-5)) hx hb hr (fun t ht hW => ⟨⟨(-5), (), rfl, rfl, ⟨by rw [ht]; exact hP.sub [] rfl, hD.sub [] (by decide) rfl⟩⟩, hS.F ht⟩) hS.2.2 dX6_step_33
def fX6_under (v_a : Int32) : Int32 :=
  if (fX6_within v_a 0 4) = 0 then (-2) else (-5)
set_option maxHeartbeats 4000000 in
set_option maxRecDepth 100000 in
theorem c_X6_under (l : Launch) (D : va_G) (E : Nat → ClassId) (G : Nat → Nat) (sz : Nat) (a0 : Nat) (v_a : Int32) (a0_now : Nat) (a0_kept : Nat) (a0_ways : Nat) (a0_shelves : Nat) (a0_tape : Nat) (a0_reader : Nat) (a0_refusals : Nat) (a0_bestPack : Nat) (a0_now_counts : Nat) (a0_now_roads : Nat) (a0_now_bridges : Nat) (a0_now_waggons : Nat) (a0_now_parts : Nat) (a0_now_settings : Nat) (a0_now_trip : Nat) : Met l yX6_under (oh_w yX6_under cX6_under 2 (some .int)) ({ frames := 2, cells := 0, slots := 0, locals := 44 }) (oh_Pm D E G [.ref a0, .int v_a] [(a0, .inr (6, [.ref a0_now, .ref a0_kept, .int 0, .ref a0_ways, .ref a0_shelves, .ref a0_tape, .ref a0_reader, .ref a0_refusals, .ref a0_bestPack])), (a0_now, .inr (0, [.ref a0_now_counts, .ref a0_now_roads, .ref a0_now_bridges, .ref a0_now_waggons, .ref a0_now_parts, .ref a0_now_settings, .ref a0_now_trip, .int 0])), (a0_refusals, .inl (E 0, 5, .inl (fun _ => 0)))] sz) (va_Qi (fun r (_ : Unit) => r = fX6_under v_a) (oh_B D (va_A [(a0, .inr (6, [.ref a0_now, .ref a0_kept, .int 0, .ref a0_ways, .ref a0_shelves, .ref a0_tape, .ref a0_reader, .ref a0_refusals, .ref a0_bestPack])), (a0_now, .inr (0, [.ref a0_now_counts, .ref a0_now_roads, .ref a0_now_bridges, .ref a0_now_waggons, .ref a0_now_parts, .ref a0_now_settings, .ref a0_now_trip, .int 0])), (a0_refusals, .inl (E 0, 5, .inl (fun _ => 0)))] sz) (fun _ => [])) (va_A [(a0, .inr (6, [.ref a0_now, .ref a0_kept, .int 0, .ref a0_ways, .ref a0_shelves, .ref a0_tape, .ref a0_reader, .ref a0_refusals, .ref a0_bestPack])), (a0_now, .inr (0, [.ref a0_now_counts, .ref a0_now_roads, .ref a0_now_bridges, .ref a0_now_waggons, .ref a0_now_parts, .ref a0_now_settings, .ref a0_now_trip, .int 0])), (a0_refusals, .inl (E 0, 5, .inl (fun _ => 0)))] sz)) 0 0 (va_A [(a0, .inr (6, [.ref a0_now, .ref a0_kept, .int 0, .ref a0_ways, .ref a0_shelves, .ref a0_tape, .ref a0_reader, .ref a0_refusals, .ref a0_bestPack])), (a0_now, .inr (0, [.ref a0_now_counts, .ref a0_now_roads, .ref a0_now_bridges, .ref a0_now_waggons, .ref a0_now_parts, .ref a0_now_settings, .ref a0_now_trip, .int 0])), (a0_refusals, .inl (E 0, 5, .inl (fun _ => 0)))] sz) := by
  refine Met.ofW (cc := cX6_under) (maxL := 2) (ret := (some .int)) (by decide) rfl ?_
  intro p e s m args below meth c s₁ B hml hv
  obtain ⟨rfl, hsz, hP, hK, hD0, hG⟩ := hv
  have hx := B.exec
  have hb := B.bytes
  have hr := B.returns
  have hts := atoms_spec (ws := (oh_w yX6_under cX6_under 2 (some .int))) B.pre
  have htg : ∀ w ∈ oh_t, w.before _ s = true := fun w h => hts w (List.mem_cons_of_mem _ h)
  have hown : s.vm.findClass RX6 = some m.cls := findClass_of_methodNamed B.named
  have hlocks := B.notSynchronized
  subst hsz
  have hD := hD0.self (sz := s.heap.size)
  generalize hAe : va_A [(a0, .inr (6, [.ref a0_now, .ref a0_kept, .int 0, .ref a0_ways, .ref a0_shelves, .ref a0_tape, .ref a0_reader, .ref a0_refusals, .ref a0_bestPack])), (a0_now, .inr (0, [.ref a0_now_counts, .ref a0_now_roads, .ref a0_now_bridges, .ref a0_now_waggons, .ref a0_now_parts, .ref a0_now_settings, .ref a0_now_trip, .int 0])), (a0_refusals, .inl (E 0, 5, .inl (fun _ => 0)))] s.heap.size = A at hD hG ⊢
  have hA : ∀ q : Nat, s.heap.size ≤ q → A q := fun q h => by rw [← hAe]; exact Or.inr h
  have hS : va_S A s.heap s.heap [] := va_S.rf
  have hP : va_P D vwCl [(a0, .inr (6, [.ref a0_now, .ref a0_kept, .int 0, .ref a0_ways, .ref a0_shelves, .ref a0_tape, .ref a0_reader, .ref a0_refusals, .ref a0_bestPack])), (a0_now, .inr (0, [.ref a0_now_counts, .ref a0_now_roads, .ref a0_now_bridges, .ref a0_now_waggons, .ref a0_now_parts, .ref a0_now_settings, .ref a0_now_trip, .int 0])), (a0_refusals, .inl (E 0, 5, .inl (fun _ => 0)))] s.heap := hP
  have hl := lv_entry ([.ref a0, .int v_a]) (n := 2) (Nat.le_of_ble_eq_true rfl)
  rw [lg_entry_eq]
  generalize (lg_sl ([.ref a0, .int v_a]) ++ List.replicate (2 - (lg_sl ([.ref a0, .int v_a])).length) Slot.unset).toArray = ls at hl ⊢
  have hl : lv_has ls 2 [(0, .ref a0), (1, .int v_a)] := hl
  refine lv_iload_n hx hb dX6_under_0 rfl (lv_at hl 1 rfl) ?_
  refine lv_iconst (v := 0) hx hb dX6_under_1 (by decide) ?_
  refine lv_iconst (v := 4) hx hb dX6_under_2 (by decide) ?_
  refine oh_pS (As := [.int v_a, .int 0, .int 4]) (rest := []) (v := fX6_within v_a 0 4) ⟨hx, hb, hml, hown, htg⟩ (c_X6_within l D E G v_a 0 4) (va_cwS 3 htg (oh_gS q_293 q_294 q_66 q_295) rfl rfl rfl pdX6_within ⟨Nat.le_of_ble_eq_true rfl, Nat.le_of_ble_eq_true rfl⟩) hK (hP.sub (ws' := []) [] rfl) hG hS rfl hl.1 rfl (Nat.le_of_ble_eq_true rfl) dX6_under_3 ⟨Nat.le_of_ble_eq_true rfl, Nat.le_of_ble_eq_true rfl⟩ ?_
  refine lv_if_ne (tgt := 16) hx hb dX6_under_6 (by decide) (fun (c_1 : ¬ ((fX6_within v_a 0 4) = 0)) => ?_) (fun (c_1 : (fX6_within v_a 0 4) = 0) => ?_)
  · refine lv_aload_n hx hb dX6_under_16 rfl (lv_at hl 0 rfl) ?_
    refine va_get (D := D) (ci := 6) (v := .ref a0_now) (C := RX6) (T := TX6) (N := 9) hx hb htg ig_6 hown hK hP 0 rfl rfl 0 (by decide) (htg _ q_258) (fun _ h9 => h9) rfl dX6_under_17 ?_
    refine va_get (D := D) (ci := 0) (v := .int 0) (C := RX0) (T := TX0) (N := 8) hx hb htg ig_0 hown hK hP 1 rfl rfl 7 (by decide) (htg _ q_114) (fun _ h9 => h9) rfl dX6_under_20 ?_
    refine lv_if_eq (tgt := 38) hx hb dX6_under_23 (by decide) (fun _ => ?_) (fun c => absurd (show (0 : Int32) = 0 from by decide) c)
    refine lv_aload_n hx hb dX6_under_38 rfl (lv_at hl 0 rfl) ?_
    refine lv_bipush (v := (-5)) hx hb dX6_under_39 (by decide) ?_
    refine oh_mV (As := [.int (-5)]) (rest := []) (wr := [(a0_now, .inr (0, [.ref a0_now_counts, .ref a0_now_roads, .ref a0_now_bridges, .ref a0_now_waggons, .ref a0_now_parts, .ref a0_now_settings, .ref a0_now_trip, .int 0]))]) ⟨hx, hb, hml, hown, htg⟩ (c_X6_refuse l D E G s.heap.size a0 (-5) a0_now a0_kept a0_ways a0_shelves a0_tape a0_reader a0_refusals a0_bestPack) (cwV 1 htg (oh_gV q_296 q_298 q_0 q_66 q_299) rfl rfl rfl pdVX6_refuse ⟨Nat.le_of_ble_eq_true rfl, Nat.le_of_ble_eq_true rfl⟩) hK hP hD hG hS hA [0, 2] [1] rfl rfl (by decide) (by decide) (by decide) (va_recv hK hP (ci := 6) (q0 := 0) rfl rfl) rfl hl.1 rfl (Nat.le_of_ble_eq_true rfl) dX6_under_41 ⟨Nat.le_of_ble_eq_true rfl, Nat.le_of_ble_eq_true rfl⟩ (fun r_1 u H locs hw hP hD hS => ?_)
    subst hw
    have hP : va_P D vwCl [(a0_now, .inr (0, [.ref a0_now_counts, .ref a0_now_roads, .ref a0_now_bridges, .ref a0_now_waggons, .ref a0_now_parts, .ref a0_now_settings, .ref a0_now_trip, .int 0])), (a0, .inr (6, [.ref a0_now, .ref a0_kept, .int 0, .ref a0_ways, .ref a0_shelves, .ref a0_tape, .ref a0_reader, .ref a0_refusals, .ref a0_bestPack]))] H := hP
    have hD : va_D A [(a0_now, .inr (0, [.ref a0_now_counts, .ref a0_now_roads, .ref a0_now_bridges, .ref a0_now_waggons, .ref a0_now_parts, .ref a0_now_settings, .ref a0_now_trip, .int 0])), (a0, .inr (6, [.ref a0_now, .ref a0_kept, .int 0, .ref a0_ways, .ref a0_shelves, .ref a0_tape, .ref a0_reader, .ref a0_refusals, .ref a0_bestPack]))] := hD
    refine W.widen (k := 0) (n := 0) (Nat.le_refl _) (Nat.le_refl _) ?_
    refine W.widen (k := 0) (n := 0) (Nat.le_of_ble_eq_true rfl) (Nat.le_of_ble_eq_true rfl) ?_
    exact W.iret (v := (-5)) hx hb hr (fun t ht hW => ⟨⟨(-5), (), rfl, by unfold fX6_under; rw [if_neg c_1], ⟨by rw [ht]; exact hP.sub [] rfl, hD.sub [] (by decide) rfl⟩⟩, hS.F ht⟩) hS.2.2 dX6_under_44
  · refine lv_aload_n hx hb dX6_under_9 rfl (lv_at hl 0 rfl) ?_
    refine lv_bipush (v := (-2)) hx hb dX6_under_10 (by decide) ?_
    refine oh_mV (As := [.int (-2)]) (rest := []) (wr := [(a0_now, .inr (0, [.ref a0_now_counts, .ref a0_now_roads, .ref a0_now_bridges, .ref a0_now_waggons, .ref a0_now_parts, .ref a0_now_settings, .ref a0_now_trip, .int 0]))]) ⟨hx, hb, hml, hown, htg⟩ (c_X6_refuse l D E G s.heap.size a0 (-2) a0_now a0_kept a0_ways a0_shelves a0_tape a0_reader a0_refusals a0_bestPack) (cwV 1 htg (oh_gV q_296 q_298 q_0 q_66 q_299) rfl rfl rfl pdVX6_refuse ⟨Nat.le_of_ble_eq_true rfl, Nat.le_of_ble_eq_true rfl⟩) hK hP hD hG hS hA [0, 2] [1] rfl rfl (by decide) (by decide) (by decide) (va_recv hK hP (ci := 6) (q0 := 0) rfl rfl) rfl hl.1 rfl (Nat.le_of_ble_eq_true rfl) dX6_under_12 ⟨Nat.le_of_ble_eq_true rfl, Nat.le_of_ble_eq_true rfl⟩ (fun r_2 u H locs hw hP hD hS => ?_)
    subst hw
    have hP : va_P D vwCl [(a0_now, .inr (0, [.ref a0_now_counts, .ref a0_now_roads, .ref a0_now_bridges, .ref a0_now_waggons, .ref a0_now_parts, .ref a0_now_settings, .ref a0_now_trip, .int 0])), (a0, .inr (6, [.ref a0_now, .ref a0_kept, .int 0, .ref a0_ways, .ref a0_shelves, .ref a0_tape, .ref a0_reader, .ref a0_refusals, .ref a0_bestPack]))] H := hP
    have hD : va_D A [(a0_now, .inr (0, [.ref a0_now_counts, .ref a0_now_roads, .ref a0_now_bridges, .ref a0_now_waggons, .ref a0_now_parts, .ref a0_now_settings, .ref a0_now_trip, .int 0])), (a0, .inr (6, [.ref a0_now, .ref a0_kept, .int 0, .ref a0_ways, .ref a0_shelves, .ref a0_tape, .ref a0_reader, .ref a0_refusals, .ref a0_bestPack]))] := hD
    refine W.widen (k := 0) (n := 0) (Nat.le_refl _) (Nat.le_refl _) ?_
    refine W.widen (k := 0) (n := 0) (Nat.le_of_ble_eq_true rfl) (Nat.le_of_ble_eq_true rfl) ?_
    exact W.iret (v := (-2)) hx hb hr (fun t ht hW => ⟨⟨(-2), (), rfl, by unfold fX6_under; rw [if_pos c_1], ⟨by rw [ht]; exact hP.sub [] rfl, hD.sub [] (by decide) rfl⟩⟩, hS.F ht⟩) hS.2.2 dX6_under_15
set_option maxHeartbeats 4000000 in
set_option maxRecDepth 100000 in
theorem c_X6_back (l : Launch) (D : va_G) (E : Nat → ClassId) (G : Nat → Nat) (sz : Nat) (a0 : Nat) (a0_now : Nat) (a0_kept : Nat) (a0_ways : Nat) (a0_shelves : Nat) (a0_tape : Nat) (a0_reader : Nat) (a0_refusals : Nat) (a0_bestPack : Nat) : Met l yX6_back (oh_w yX6_back cX6_back 1 (some .int)) ({ frames := 2, cells := 0, slots := 0, locals := 44 }) (oh_Pm D E G [.ref a0] [(a0, .inr (6, [.ref a0_now, .ref a0_kept, .int 0, .ref a0_ways, .ref a0_shelves, .ref a0_tape, .ref a0_reader, .ref a0_refusals, .ref a0_bestPack])), (a0_refusals, .inl (E 0, 5, .inl (fun _ => 0)))] sz) (va_Qi (fun r (_ : Unit) => r = (-5)) (oh_B D (va_A [(a0, .inr (6, [.ref a0_now, .ref a0_kept, .int 0, .ref a0_ways, .ref a0_shelves, .ref a0_tape, .ref a0_reader, .ref a0_refusals, .ref a0_bestPack])), (a0_refusals, .inl (E 0, 5, .inl (fun _ => 0)))] sz) (fun _ => [])) (va_A [(a0, .inr (6, [.ref a0_now, .ref a0_kept, .int 0, .ref a0_ways, .ref a0_shelves, .ref a0_tape, .ref a0_reader, .ref a0_refusals, .ref a0_bestPack])), (a0_refusals, .inl (E 0, 5, .inl (fun _ => 0)))] sz)) 0 0 (va_A [(a0, .inr (6, [.ref a0_now, .ref a0_kept, .int 0, .ref a0_ways, .ref a0_shelves, .ref a0_tape, .ref a0_reader, .ref a0_refusals, .ref a0_bestPack])), (a0_refusals, .inl (E 0, 5, .inl (fun _ => 0)))] sz) := by
  refine Met.ofW (cc := cX6_back) (maxL := 1) (ret := (some .int)) (by decide) rfl ?_
  intro p e s m args below meth c s₁ B hml hv
  obtain ⟨rfl, hsz, hP, hK, hD0, hG⟩ := hv
  have hx := B.exec
  have hb := B.bytes
  have hr := B.returns
  have hts := atoms_spec (ws := (oh_w yX6_back cX6_back 1 (some .int))) B.pre
  have htg : ∀ w ∈ oh_t, w.before _ s = true := fun w h => hts w (List.mem_cons_of_mem _ h)
  have hown : s.vm.findClass RX6 = some m.cls := findClass_of_methodNamed B.named
  have hlocks := B.notSynchronized
  subst hsz
  have hD := hD0.self (sz := s.heap.size)
  generalize hAe : va_A [(a0, .inr (6, [.ref a0_now, .ref a0_kept, .int 0, .ref a0_ways, .ref a0_shelves, .ref a0_tape, .ref a0_reader, .ref a0_refusals, .ref a0_bestPack])), (a0_refusals, .inl (E 0, 5, .inl (fun _ => 0)))] s.heap.size = A at hD hG ⊢
  have hA : ∀ q : Nat, s.heap.size ≤ q → A q := fun q h => by rw [← hAe]; exact Or.inr h
  have hS : va_S A s.heap s.heap [] := va_S.rf
  have hP : va_P D vwCl [(a0, .inr (6, [.ref a0_now, .ref a0_kept, .int 0, .ref a0_ways, .ref a0_shelves, .ref a0_tape, .ref a0_reader, .ref a0_refusals, .ref a0_bestPack])), (a0_refusals, .inl (E 0, 5, .inl (fun _ => 0)))] s.heap := hP
  have hl := lv_entry ([.ref a0]) (n := 1) (Nat.le_of_ble_eq_true rfl)
  rw [lg_entry_eq]
  generalize (lg_sl ([.ref a0]) ++ List.replicate (1 - (lg_sl ([.ref a0])).length) Slot.unset).toArray = ls at hl ⊢
  have hl : lv_has ls 1 [(0, .ref a0)] := hl
  refine lv_aload_n hx hb dX6_back_0 rfl (lv_at hl 0 rfl) ?_
  refine va_get (D := D) (ci := 6) (v := .int 0) (C := RX6) (T := TX6) (N := 9) hx hb htg ig_6 hown hK hP 0 rfl rfl 2 (by decide) (htg _ q_260) (fun _ h9 => h9) rfl dX6_back_1 ?_
  refine lv_if_ne (tgt := 14) hx hb dX6_back_4 (by decide) (fun c => absurd (show (0 : Int32) = 0 from by decide) c) (fun _ => ?_)
  refine lv_aload_n hx hb dX6_back_7 rfl (lv_at hl 0 rfl) ?_
  refine lv_bipush (v := (-5)) hx hb dX6_back_8 (by decide) ?_
  refine oh_mV (As := [.int (-5)]) (rest := []) (wr := []) ⟨hx, hb, hml, hown, htg⟩ (c_X6_refuse l D E G s.heap.size a0 (-5) a0_now a0_kept a0_ways a0_shelves a0_tape a0_reader a0_refusals a0_bestPack) (cwV 1 htg (oh_gV q_296 q_298 q_0 q_66 q_299) rfl rfl rfl pdVX6_refuse ⟨Nat.le_of_ble_eq_true rfl, Nat.le_of_ble_eq_true rfl⟩) hK hP hD hG hS hA [0, 1] [] rfl rfl (by decide) (by decide) (by decide) (va_recv hK hP (ci := 6) (q0 := 0) rfl rfl) rfl hl.1 rfl (Nat.le_of_ble_eq_true rfl) dX6_back_10 ⟨Nat.le_of_ble_eq_true rfl, Nat.le_of_ble_eq_true rfl⟩ (fun r_1 u H locs hw hP hD hS => ?_)
  subst hw
  have hP : va_P D vwCl [(a0, .inr (6, [.ref a0_now, .ref a0_kept, .int 0, .ref a0_ways, .ref a0_shelves, .ref a0_tape, .ref a0_reader, .ref a0_refusals, .ref a0_bestPack]))] H := hP
  have hD : va_D A [(a0, .inr (6, [.ref a0_now, .ref a0_kept, .int 0, .ref a0_ways, .ref a0_shelves, .ref a0_tape, .ref a0_reader, .ref a0_refusals, .ref a0_bestPack]))] := hD
  refine W.widen (k := 0) (n := 0) (Nat.le_refl _) (Nat.le_refl _) ?_
  refine W.widen (k := 0) (n := 0) (Nat.le_of_ble_eq_true rfl) (Nat.le_of_ble_eq_true rfl) ?_
  exact W.iret (v := (-5)) hx hb hr (fun t ht hW => ⟨⟨(-5), (), rfl, rfl, ⟨by rw [ht]; exact hP.sub [] rfl, hD.sub [] (by decide) rfl⟩⟩, hS.F ht⟩) hS.2.2 dX6_back_13
set_option maxHeartbeats 4000000 in
set_option maxRecDepth 100000 in
theorem c_X6_wipe (l : Launch) (D : va_G) (E : Nat → ClassId) (G : Nat → Nat) (sz : Nat) (a0 : Nat) (a0_now : Nat) (a0_kept : Nat) (a0_ways : Nat) (a0_shelves : Nat) (a0_tape : Nat) (a0_reader : Nat) (a0_refusals : Nat) (a0_bestPack : Nat) (a0_tape_bytes : Nat) : Met l yX6_wipe (oh_w yX6_wipe cX6_wipe 2 (some .int)) ({ frames := 0, cells := 0, slots := 0, locals := 0 }) (oh_Pm D E G [.ref a0] [(a0, .inr (6, [.ref a0_now, .ref a0_kept, .int 0, .ref a0_ways, .ref a0_shelves, .ref a0_tape, .ref a0_reader, .ref a0_refusals, .ref a0_bestPack])), (a0_tape, .inr (4, [.ref a0_tape_bytes, .int 0, .int (-1), .int 0, .int 0, .int 0]))] sz) (va_Qi (fun r (_ : Unit) => r = 0) (oh_B D (va_A [(a0, .inr (6, [.ref a0_now, .ref a0_kept, .int 0, .ref a0_ways, .ref a0_shelves, .ref a0_tape, .ref a0_reader, .ref a0_refusals, .ref a0_bestPack])), (a0_tape, .inr (4, [.ref a0_tape_bytes, .int 0, .int (-1), .int 0, .int 0, .int 0]))] sz) (fun _ => [])) (va_A [(a0, .inr (6, [.ref a0_now, .ref a0_kept, .int 0, .ref a0_ways, .ref a0_shelves, .ref a0_tape, .ref a0_reader, .ref a0_refusals, .ref a0_bestPack])), (a0_tape, .inr (4, [.ref a0_tape_bytes, .int 0, .int (-1), .int 0, .int 0, .int 0]))] sz)) 0 0 (va_A [(a0, .inr (6, [.ref a0_now, .ref a0_kept, .int 0, .ref a0_ways, .ref a0_shelves, .ref a0_tape, .ref a0_reader, .ref a0_refusals, .ref a0_bestPack])), (a0_tape, .inr (4, [.ref a0_tape_bytes, .int 0, .int (-1), .int 0, .int 0, .int 0]))] sz) := by
  refine Met.ofW (cc := cX6_wipe) (maxL := 2) (ret := (some .int)) (by decide) rfl ?_
  intro p e s m args below meth c s₁ B hml hv
  obtain ⟨rfl, hsz, hP, hK, hD0, hG⟩ := hv
  have hx := B.exec
  have hb := B.bytes
  have hr := B.returns
  have hts := atoms_spec (ws := (oh_w yX6_wipe cX6_wipe 2 (some .int))) B.pre
  have htg : ∀ w ∈ oh_t, w.before _ s = true := fun w h => hts w (List.mem_cons_of_mem _ h)
  have hown : s.vm.findClass RX6 = some m.cls := findClass_of_methodNamed B.named
  have hlocks := B.notSynchronized
  subst hsz
  have hD := hD0.self (sz := s.heap.size)
  generalize hAe : va_A [(a0, .inr (6, [.ref a0_now, .ref a0_kept, .int 0, .ref a0_ways, .ref a0_shelves, .ref a0_tape, .ref a0_reader, .ref a0_refusals, .ref a0_bestPack])), (a0_tape, .inr (4, [.ref a0_tape_bytes, .int 0, .int (-1), .int 0, .int 0, .int 0]))] s.heap.size = A at hD hG ⊢
  have hA : ∀ q : Nat, s.heap.size ≤ q → A q := fun q h => by rw [← hAe]; exact Or.inr h
  have hS : va_S A s.heap s.heap [] := va_S.rf
  have hP : va_P D vwCl [(a0, .inr (6, [.ref a0_now, .ref a0_kept, .int 0, .ref a0_ways, .ref a0_shelves, .ref a0_tape, .ref a0_reader, .ref a0_refusals, .ref a0_bestPack])), (a0_tape, .inr (4, [.ref a0_tape_bytes, .int 0, .int (-1), .int 0, .int 0, .int 0]))] s.heap := hP
  have hl := lv_entry ([.ref a0]) (n := 2) (Nat.le_of_ble_eq_true rfl)
  rw [lg_entry_eq]
  generalize (lg_sl ([.ref a0]) ++ List.replicate (2 - (lg_sl ([.ref a0])).length) Slot.unset).toArray = ls at hl ⊢
  have hl : lv_has ls 2 [(0, .ref a0)] := hl
  refine lv_aload_n hx hb dX6_wipe_0 rfl (lv_at hl 0 rfl) ?_
  refine va_get (D := D) (ci := 6) (v := .ref a0_tape) (C := RX6) (T := TX6) (N := 9) hx hb htg ig_6 hown hK hP 0 rfl rfl 5 (by decide) (htg _ q_263) (fun _ h9 => h9) rfl dX6_wipe_1 ?_
  refine va_get (D := D) (ci := 4) (v := .int 0) (C := RX4) (T := TX4) (N := 6) hx hb htg ig_4 hown hK hP 1 rfl rfl 1 (by decide) (htg _ q_219) (fun _ h9 => h9) rfl dX6_wipe_4 ?_
  refine lv_istore_n (lv' := [(1, .int 0), (0, .ref a0)]) hx hb dX6_wipe_7 rfl hl (by decide) rfl (fun ls hl => ?_)
  refine lv_aload_n hx hb dX6_wipe_8 rfl (lv_at hl 1 rfl) ?_
  refine va_get (D := D) (ci := 6) (v := .ref a0_tape) (C := RX6) (T := TX6) (N := 9) hx hb htg ig_6 hown hK hP 0 rfl rfl 5 (by decide) (htg _ q_263) (fun _ h9 => h9) rfl dX6_wipe_9 ?_
  refine lv_iconst (v := 0) hx hb dX6_wipe_12 (by decide) ?_
  refine va_put (D := D) (ci := 4) (v := .int 0) (ty := .int) (C := RX4) (T := TX4) (N := 6) hx hb htg ig_4 tyX4 tyX4_ok nmX4 hown hK hP hD hS 1 rfl rfl 1 (by decide) (htg _ q_219) (fun _ h9 => h9) rfl (by decide +kernel) rfl rfl (Nat.le_of_ble_eq_true rfl) dX6_wipe_13 (fun H locs hP hD hS => ?_)
  have hP : va_P D vwCl [(a0, .inr (6, [.ref a0_now, .ref a0_kept, .int 0, .ref a0_ways, .ref a0_shelves, .ref a0_tape, .ref a0_reader, .ref a0_refusals, .ref a0_bestPack])), (a0_tape, .inr (4, [.ref a0_tape_bytes, .int 0, .int (-1), .int 0, .int 0, .int 0]))] H := hP
  have hD : va_D A [(a0, .inr (6, [.ref a0_now, .ref a0_kept, .int 0, .ref a0_ways, .ref a0_shelves, .ref a0_tape, .ref a0_reader, .ref a0_refusals, .ref a0_bestPack])), (a0_tape, .inr (4, [.ref a0_tape_bytes, .int 0, .int (-1), .int 0, .int 0, .int 0]))] := hD
  refine lv_iload_n hx hb dX6_wipe_16 rfl (lv_at hl 0 rfl) ?_
  refine W.widen (k := 0) (n := 0) (Nat.le_of_ble_eq_true rfl) (Nat.le_of_ble_eq_true rfl) ?_
  exact W.iret (v := 0) hx hb hr (fun t ht hW => ⟨⟨0, (), rfl, rfl, ⟨by rw [ht]; exact hP.sub [] rfl, hD.sub [] (by decide) rfl⟩⟩, hS.F ht⟩) hS.2.2 dX6_wipe_17
def fX6_ask (v_a : Int32) (v_b : Int32) : Int32 :=
  if (fX6_within v_a 0 2) = 0 then (-2) else if (fX6_within v_b 0 (oh_maxs (v_a).toNatClampNeg)) = 0 then (-2) else (upd (upd (fun _ => 0) 0 100) 1 2) (v_a).toNatClampNeg
set_option maxHeartbeats 4000000 in
set_option maxRecDepth 100000 in
theorem c_X6_ask (l : Launch) (D : va_G) (E : Nat → ClassId) (G : Nat → Nat) (sz : Nat) (a0 : Nat) (v_a : Int32) (v_b : Int32) (a0_now : Nat) (a0_kept : Nat) (a0_ways : Nat) (a0_shelves : Nat) (a0_tape : Nat) (a0_reader : Nat) (a0_refusals : Nat) (a0_bestPack : Nat) (a0_now_counts : Nat) (a0_now_roads : Nat) (a0_now_bridges : Nat) (a0_now_waggons : Nat) (a0_now_parts : Nat) (a0_now_settings : Nat) (a0_now_trip : Nat) : Met l yX6_ask (oh_w yX6_ask cX6_ask 4 (some .int)) ({ frames := 2, cells := 0, slots := 0, locals := 44 }) (oh_Pm D E G [.ref a0, .int v_a, .int v_b] [(a0, .inr (6, [.ref a0_now, .ref a0_kept, .int 0, .ref a0_ways, .ref a0_shelves, .ref a0_tape, .ref a0_reader, .ref a0_refusals, .ref a0_bestPack])), (a0_now, .inr (0, [.ref a0_now_counts, .ref a0_now_roads, .ref a0_now_bridges, .ref a0_now_waggons, .ref a0_now_parts, .ref a0_now_settings, .ref a0_now_trip, .int 0])), (a0_now_settings, .inl (E 0, 3, .inl (upd (upd (fun _ => 0) 0 100) 1 2))), (a0_refusals, .inl (E 0, 5, .inl (fun _ => 0)))] sz) (va_Qi (fun r (_ : Unit) => r = fX6_ask v_a v_b) (oh_B D (va_A [(a0, .inr (6, [.ref a0_now, .ref a0_kept, .int 0, .ref a0_ways, .ref a0_shelves, .ref a0_tape, .ref a0_reader, .ref a0_refusals, .ref a0_bestPack])), (a0_now, .inr (0, [.ref a0_now_counts, .ref a0_now_roads, .ref a0_now_bridges, .ref a0_now_waggons, .ref a0_now_parts, .ref a0_now_settings, .ref a0_now_trip, .int 0])), (a0_now_settings, .inl (E 0, 3, .inl (upd (upd (fun _ => 0) 0 100) 1 2))), (a0_refusals, .inl (E 0, 5, .inl (fun _ => 0)))] sz) (fun _ => [])) (va_A [(a0, .inr (6, [.ref a0_now, .ref a0_kept, .int 0, .ref a0_ways, .ref a0_shelves, .ref a0_tape, .ref a0_reader, .ref a0_refusals, .ref a0_bestPack])), (a0_now, .inr (0, [.ref a0_now_counts, .ref a0_now_roads, .ref a0_now_bridges, .ref a0_now_waggons, .ref a0_now_parts, .ref a0_now_settings, .ref a0_now_trip, .int 0])), (a0_now_settings, .inl (E 0, 3, .inl (upd (upd (fun _ => 0) 0 100) 1 2))), (a0_refusals, .inl (E 0, 5, .inl (fun _ => 0)))] sz)) 0 0 (va_A [(a0, .inr (6, [.ref a0_now, .ref a0_kept, .int 0, .ref a0_ways, .ref a0_shelves, .ref a0_tape, .ref a0_reader, .ref a0_refusals, .ref a0_bestPack])), (a0_now, .inr (0, [.ref a0_now_counts, .ref a0_now_roads, .ref a0_now_bridges, .ref a0_now_waggons, .ref a0_now_parts, .ref a0_now_settings, .ref a0_now_trip, .int 0])), (a0_now_settings, .inl (E 0, 3, .inl (upd (upd (fun _ => 0) 0 100) 1 2))), (a0_refusals, .inl (E 0, 5, .inl (fun _ => 0)))] sz) := by
  refine Met.ofW (cc := cX6_ask) (maxL := 4) (ret := (some .int)) (by decide) rfl ?_
  intro p e s m args below meth c s₁ B hml hv
  obtain ⟨rfl, hsz, hP, hK, hD0, hG⟩ := hv
  have hx := B.exec
  have hb := B.bytes
  have hr := B.returns
  have hts := atoms_spec (ws := (oh_w yX6_ask cX6_ask 4 (some .int))) B.pre
  have htg : ∀ w ∈ oh_t, w.before _ s = true := fun w h => hts w (List.mem_cons_of_mem _ h)
  have hown : s.vm.findClass RX6 = some m.cls := findClass_of_methodNamed B.named
  have hlocks := B.notSynchronized
  subst hsz
  have hD := hD0.self (sz := s.heap.size)
  generalize hAe : va_A [(a0, .inr (6, [.ref a0_now, .ref a0_kept, .int 0, .ref a0_ways, .ref a0_shelves, .ref a0_tape, .ref a0_reader, .ref a0_refusals, .ref a0_bestPack])), (a0_now, .inr (0, [.ref a0_now_counts, .ref a0_now_roads, .ref a0_now_bridges, .ref a0_now_waggons, .ref a0_now_parts, .ref a0_now_settings, .ref a0_now_trip, .int 0])), (a0_now_settings, .inl (E 0, 3, .inl (upd (upd (fun _ => 0) 0 100) 1 2))), (a0_refusals, .inl (E 0, 5, .inl (fun _ => 0)))] s.heap.size = A at hD hG ⊢
  have hA : ∀ q : Nat, s.heap.size ≤ q → A q := fun q h => by rw [← hAe]; exact Or.inr h
  have hS : va_S A s.heap s.heap [] := va_S.rf
  have hP : va_P D vwCl [(a0, .inr (6, [.ref a0_now, .ref a0_kept, .int 0, .ref a0_ways, .ref a0_shelves, .ref a0_tape, .ref a0_reader, .ref a0_refusals, .ref a0_bestPack])), (a0_now, .inr (0, [.ref a0_now_counts, .ref a0_now_roads, .ref a0_now_bridges, .ref a0_now_waggons, .ref a0_now_parts, .ref a0_now_settings, .ref a0_now_trip, .int 0])), (a0_now_settings, .inl (E 0, 3, .inl (upd (upd (fun _ => 0) 0 100) 1 2))), (a0_refusals, .inl (E 0, 5, .inl (fun _ => 0)))] s.heap := hP
  have hl := lv_entry ([.ref a0, .int v_a, .int v_b]) (n := 4) (Nat.le_of_ble_eq_true rfl)
  rw [lg_entry_eq]
  generalize (lg_sl ([.ref a0, .int v_a, .int v_b]) ++ List.replicate (4 - (lg_sl ([.ref a0, .int v_a, .int v_b])).length) Slot.unset).toArray = ls at hl ⊢
  have hl : lv_has ls 4 [(0, .ref a0), (1, .int v_a), (2, .int v_b)] := hl
  refine lv_iload_n hx hb dX6_ask_0 rfl (lv_at hl 1 rfl) ?_
  refine lv_iconst (v := 0) hx hb dX6_ask_1 (by decide) ?_
  refine lv_iconst (v := 2) hx hb dX6_ask_2 (by decide) ?_
  refine oh_pS (As := [.int v_a, .int 0, .int 2]) (rest := []) (v := fX6_within v_a 0 2) ⟨hx, hb, hml, hown, htg⟩ (c_X6_within l D E G v_a 0 2) (va_cwS 3 htg (oh_gS q_293 q_294 q_66 q_295) rfl rfl rfl pdX6_within ⟨Nat.le_of_ble_eq_true rfl, Nat.le_of_ble_eq_true rfl⟩) hK (hP.sub (ws' := []) [] rfl) hG hS rfl hl.1 rfl (Nat.le_of_ble_eq_true rfl) dX6_ask_3 ⟨Nat.le_of_ble_eq_true rfl, Nat.le_of_ble_eq_true rfl⟩ ?_
  refine lv_if_eq (tgt := 22) hx hb dX6_ask_6 (by decide) (fun (c_1 : (fX6_within v_a 0 2) = 0) => ?_) (fun (c_1 : ¬ ((fX6_within v_a 0 2) = 0)) => ?_)
  · refine lv_aload_n hx hb dX6_ask_22 rfl (lv_at hl 0 rfl) ?_
    refine lv_bipush (v := (-2)) hx hb dX6_ask_23 (by decide) ?_
    refine oh_mV (As := [.int (-2)]) (rest := []) (wr := [(a0_now, .inr (0, [.ref a0_now_counts, .ref a0_now_roads, .ref a0_now_bridges, .ref a0_now_waggons, .ref a0_now_parts, .ref a0_now_settings, .ref a0_now_trip, .int 0])), (a0_now_settings, .inl (E 0, 3, .inl (upd (upd (fun _ => 0) 0 100) 1 2)))]) ⟨hx, hb, hml, hown, htg⟩ (c_X6_refuse l D E G s.heap.size a0 (-2) a0_now a0_kept a0_ways a0_shelves a0_tape a0_reader a0_refusals a0_bestPack) (cwV 1 htg (oh_gV q_296 q_298 q_0 q_66 q_299) rfl rfl rfl pdVX6_refuse ⟨Nat.le_of_ble_eq_true rfl, Nat.le_of_ble_eq_true rfl⟩) hK hP hD hG hS hA [0, 3] [1, 2] rfl rfl (by decide) (by decide) (by decide) (va_recv hK hP (ci := 6) (q0 := 0) rfl rfl) rfl hl.1 rfl (Nat.le_of_ble_eq_true rfl) dX6_ask_25 ⟨Nat.le_of_ble_eq_true rfl, Nat.le_of_ble_eq_true rfl⟩ (fun r_1 u H locs hw hP hD hS => ?_)
    subst hw
    have hP : va_P D vwCl [(a0_now, .inr (0, [.ref a0_now_counts, .ref a0_now_roads, .ref a0_now_bridges, .ref a0_now_waggons, .ref a0_now_parts, .ref a0_now_settings, .ref a0_now_trip, .int 0])), (a0_now_settings, .inl (E 0, 3, .inl (upd (upd (fun _ => 0) 0 100) 1 2))), (a0, .inr (6, [.ref a0_now, .ref a0_kept, .int 0, .ref a0_ways, .ref a0_shelves, .ref a0_tape, .ref a0_reader, .ref a0_refusals, .ref a0_bestPack]))] H := hP
    have hD : va_D A [(a0_now, .inr (0, [.ref a0_now_counts, .ref a0_now_roads, .ref a0_now_bridges, .ref a0_now_waggons, .ref a0_now_parts, .ref a0_now_settings, .ref a0_now_trip, .int 0])), (a0_now_settings, .inl (E 0, 3, .inl (upd (upd (fun _ => 0) 0 100) 1 2))), (a0, .inr (6, [.ref a0_now, .ref a0_kept, .int 0, .ref a0_ways, .ref a0_shelves, .ref a0_tape, .ref a0_reader, .ref a0_refusals, .ref a0_bestPack]))] := hD
    refine W.widen (k := 0) (n := 0) (Nat.le_refl _) (Nat.le_refl _) ?_
    refine W.widen (k := 0) (n := 0) (Nat.le_of_ble_eq_true rfl) (Nat.le_of_ble_eq_true rfl) ?_
    exact W.iret (v := (-2)) hx hb hr (fun t ht hW => ⟨⟨(-2), (), rfl, by unfold fX6_ask; rw [if_pos c_1], ⟨by rw [ht]; exact hP.sub [] rfl, hD.sub [] (by decide) rfl⟩⟩, hS.F ht⟩) hS.2.2 dX6_ask_28
  · refine lv_iload_n hx hb dX6_ask_9 rfl (lv_at hl 2 rfl) ?_
    refine lv_iconst (v := 0) hx hb dX6_ask_10 (by decide) ?_
    refine va_gets hx hb hG.2.2.2.2.1.1 hS hown (htg _ q_468) (fun _ h9 => h9) dX6_ask_11 ?_
    refine lv_iload_n hx hb dX6_ask_14 rfl (lv_at hl 1 rfl) ?_
    refine va_ti (v := .int (oh_maxs (v_a).toNatClampNeg)) hx hb hG.2.2.2.2.1.2 hS (oh_win c_1 (by decide)) rfl dX6_ask_15 ?_
    refine oh_pS (As := [.int v_b, .int 0, .int (oh_maxs (v_a).toNatClampNeg)]) (rest := []) (v := fX6_within v_b 0 (oh_maxs (v_a).toNatClampNeg)) ⟨hx, hb, hml, hown, htg⟩ (c_X6_within l D E G v_b 0 (oh_maxs (v_a).toNatClampNeg)) (va_cwS 3 htg (oh_gS q_293 q_294 q_66 q_295) rfl rfl rfl pdX6_within ⟨Nat.le_of_ble_eq_true rfl, Nat.le_of_ble_eq_true rfl⟩) hK (hP.sub (ws' := []) [] rfl) hG hS rfl hl.1 rfl (Nat.le_of_ble_eq_true rfl) dX6_ask_16 ⟨Nat.le_of_ble_eq_true rfl, Nat.le_of_ble_eq_true rfl⟩ ?_
    refine lv_if_ne (tgt := 29) hx hb dX6_ask_19 (by decide) (fun (c_2 : ¬ ((fX6_within v_b 0 (oh_maxs (v_a).toNatClampNeg)) = 0)) => ?_) (fun (c_2 : (fX6_within v_b 0 (oh_maxs (v_a).toNatClampNeg)) = 0) => ?_)
    · refine lv_aload_n hx hb dX6_ask_29 rfl (lv_at hl 0 rfl) ?_
      refine va_get (D := D) (ci := 6) (v := .ref a0_now) (C := RX6) (T := TX6) (N := 9) hx hb htg ig_6 hown hK hP 0 rfl rfl 0 (by decide) (htg _ q_258) (fun _ h9 => h9) rfl dX6_ask_30 ?_
      refine va_get (D := D) (ci := 0) (v := .ref a0_now_settings) (C := RX0) (T := TX0) (N := 8) hx hb htg ig_0 hown hK hP 1 rfl rfl 5 (by decide) (htg _ q_110) (fun _ h9 => h9) rfl dX6_ask_33 ?_
      refine lv_iload_n hx hb dX6_ask_36 rfl (lv_at hl 1 rfl) ?_
      refine va_iald hx hb hK hP 2 0 rfl rfl (oh_win c_1 (by decide)) dX6_ask_37 ?_
      refine lv_istore_n (lv' := [(3, .int ((upd (upd (fun _ => 0) 0 100) 1 2) (v_a).toNatClampNeg)), (0, .ref a0), (1, .int v_a), (2, .int v_b)]) hx hb dX6_ask_38 rfl hl (by decide) rfl (fun ls hl => ?_)
      refine lv_aload_n hx hb dX6_ask_39 rfl (lv_at hl 1 rfl) ?_
      refine va_get (D := D) (ci := 6) (v := .ref a0_now) (C := RX6) (T := TX6) (N := 9) hx hb htg ig_6 hown hK hP 0 rfl rfl 0 (by decide) (htg _ q_258) (fun _ h9 => h9) rfl dX6_ask_40 ?_
      refine va_get (D := D) (ci := 0) (v := .ref a0_now_settings) (C := RX0) (T := TX0) (N := 8) hx hb htg ig_0 hown hK hP 1 rfl rfl 5 (by decide) (htg _ q_110) (fun _ h9 => h9) rfl dX6_ask_43 ?_
      refine lv_iload_n hx hb dX6_ask_46 rfl (lv_at hl 2 rfl) ?_
      refine lv_iload_n hx hb dX6_ask_47 rfl (lv_at hl 3 rfl) ?_
      refine va_iast hx hb hK hP hD hS 2 0 rfl rfl (oh_win c_1 (by decide)) dX6_ask_48 (fun H locs hP hD hS => ?_)
      have hP : va_P D vwCl [(a0, .inr (6, [.ref a0_now, .ref a0_kept, .int 0, .ref a0_ways, .ref a0_shelves, .ref a0_tape, .ref a0_reader, .ref a0_refusals, .ref a0_bestPack])), (a0_now, .inr (0, [.ref a0_now_counts, .ref a0_now_roads, .ref a0_now_bridges, .ref a0_now_waggons, .ref a0_now_parts, .ref a0_now_settings, .ref a0_now_trip, .int 0])), (a0_now_settings, .inl (E 0, 3, .inl (upd (upd (upd (fun _ => 0) 0 100) 1 2) ((v_a).toNatClampNeg) v_b))), (a0_refusals, .inl (E 0, 5, .inl (fun _ => 0)))] H := hP
      have hD : va_D A [(a0, .inr (6, [.ref a0_now, .ref a0_kept, .int 0, .ref a0_ways, .ref a0_shelves, .ref a0_tape, .ref a0_reader, .ref a0_refusals, .ref a0_bestPack])), (a0_now, .inr (0, [.ref a0_now_counts, .ref a0_now_roads, .ref a0_now_bridges, .ref a0_now_waggons, .ref a0_now_parts, .ref a0_now_settings, .ref a0_now_trip, .int 0])), (a0_now_settings, .inl (E 0, 3, .inl (upd (upd (upd (fun _ => 0) 0 100) 1 2) ((v_a).toNatClampNeg) v_b))), (a0_refusals, .inl (E 0, 5, .inl (fun _ => 0)))] := hD
      refine lv_iload_n hx hb dX6_ask_49 rfl (lv_at hl 0 rfl) ?_
      refine W.widen (k := 0) (n := 0) (Nat.le_of_ble_eq_true rfl) (Nat.le_of_ble_eq_true rfl) ?_
      exact W.iret (v := (upd (upd (fun _ => 0) 0 100) 1 2) (v_a).toNatClampNeg) hx hb hr (fun t ht hW => ⟨⟨(upd (upd (fun _ => 0) 0 100) 1 2) (v_a).toNatClampNeg, (), rfl, by unfold fX6_ask; rw [if_neg c_1, if_neg c_2], ⟨by rw [ht]; exact hP.sub [] rfl, hD.sub [] (by decide) rfl⟩⟩, hS.F ht⟩) hS.2.2 dX6_ask_50
    · refine lv_aload_n hx hb dX6_ask_22 rfl (lv_at hl 0 rfl) ?_
      refine lv_bipush (v := (-2)) hx hb dX6_ask_23 (by decide) ?_
      refine oh_mV (As := [.int (-2)]) (rest := []) (wr := [(a0_now, .inr (0, [.ref a0_now_counts, .ref a0_now_roads, .ref a0_now_bridges, .ref a0_now_waggons, .ref a0_now_parts, .ref a0_now_settings, .ref a0_now_trip, .int 0])), (a0_now_settings, .inl (E 0, 3, .inl (upd (upd (fun _ => 0) 0 100) 1 2)))]) ⟨hx, hb, hml, hown, htg⟩ (c_X6_refuse l D E G s.heap.size a0 (-2) a0_now a0_kept a0_ways a0_shelves a0_tape a0_reader a0_refusals a0_bestPack) (cwV 1 htg (oh_gV q_296 q_298 q_0 q_66 q_299) rfl rfl rfl pdVX6_refuse ⟨Nat.le_of_ble_eq_true rfl, Nat.le_of_ble_eq_true rfl⟩) hK hP hD hG hS hA [0, 3] [1, 2] rfl rfl (by decide) (by decide) (by decide) (va_recv hK hP (ci := 6) (q0 := 0) rfl rfl) rfl hl.1 rfl (Nat.le_of_ble_eq_true rfl) dX6_ask_25 ⟨Nat.le_of_ble_eq_true rfl, Nat.le_of_ble_eq_true rfl⟩ (fun r_2 u H locs hw hP hD hS => ?_)
      subst hw
      have hP : va_P D vwCl [(a0_now, .inr (0, [.ref a0_now_counts, .ref a0_now_roads, .ref a0_now_bridges, .ref a0_now_waggons, .ref a0_now_parts, .ref a0_now_settings, .ref a0_now_trip, .int 0])), (a0_now_settings, .inl (E 0, 3, .inl (upd (upd (fun _ => 0) 0 100) 1 2))), (a0, .inr (6, [.ref a0_now, .ref a0_kept, .int 0, .ref a0_ways, .ref a0_shelves, .ref a0_tape, .ref a0_reader, .ref a0_refusals, .ref a0_bestPack]))] H := hP
      have hD : va_D A [(a0_now, .inr (0, [.ref a0_now_counts, .ref a0_now_roads, .ref a0_now_bridges, .ref a0_now_waggons, .ref a0_now_parts, .ref a0_now_settings, .ref a0_now_trip, .int 0])), (a0_now_settings, .inl (E 0, 3, .inl (upd (upd (fun _ => 0) 0 100) 1 2))), (a0, .inr (6, [.ref a0_now, .ref a0_kept, .int 0, .ref a0_ways, .ref a0_shelves, .ref a0_tape, .ref a0_reader, .ref a0_refusals, .ref a0_bestPack]))] := hD
      refine W.widen (k := 0) (n := 0) (Nat.le_refl _) (Nat.le_refl _) ?_
      refine W.widen (k := 0) (n := 0) (Nat.le_of_ble_eq_true rfl) (Nat.le_of_ble_eq_true rfl) ?_
      exact W.iret (v := (-2)) hx hb hr (fun t ht hW => ⟨⟨(-2), (), rfl, by unfold fX6_ask; rw [if_neg c_1, if_pos c_2], ⟨by rw [ht]; exact hP.sub [] rfl, hD.sub [] (by decide) rfl⟩⟩, hS.F ht⟩) hS.2.2 dX6_ask_28
theorem oh_w12 {v : Int32} (h : ¬ fX6_within v 12 16 = 0) : vp_in (v - 12) 5 := by
  rw [vp_in_iff]
  unfold fX6_within at h
  by_cases h1 : v < 12
  · exact absurd (if_pos h1) h
  · rw [if_neg h1] at h
    by_cases h2 : 16 < v
    · exact absurd (if_pos h2) h
    · rw [Int32.lt_iff_toInt_lt] at h1 h2
      have h3 : (12 : Int32).toInt = 12 := by decide
      have h4 : (16 : Int32).toInt = 16 := by decide
      have h5 : (v - 12).toInt = v.toInt - 12 := by
        rw [Int32.toInt_sub, h3]
        apply Int.bmod_eq_of_le <;> omega
      omega
theorem oh_f14 {v : Int32} (h : ¬ fX6_within v 1 4 = 0) : v = 1 ∨ v = 2 ∨ v = 3 ∨ v = 4 := by
  unfold fX6_within at h
  by_cases h1 : v < 1
  · exact absurd (if_pos h1) h
  · rw [if_neg h1] at h
    by_cases h2 : 4 < v
    · exact absurd (if_pos h2) h
    · rw [Int32.lt_iff_toInt_lt] at h1 h2
      have h3 : (1 : Int32).toInt = 1 := by decide
      have h4 : (4 : Int32).toInt = 4 := by decide
      rcases (show v.toInt = 1 ∨ v.toInt = 2 ∨ v.toInt = 3 ∨ v.toInt = 4 by omega) with h | h | h | h
      · exact Or.inl (Int32.toInt_inj.mp (h.trans (by decide)))
      · exact Or.inr (Or.inl (Int32.toInt_inj.mp (h.trans (by decide))))
      · exact Or.inr (Or.inr (Or.inl (Int32.toInt_inj.mp (h.trans (by decide)))))
      · exact Or.inr (Or.inr (Or.inr (Int32.toInt_inj.mp (h.trans (by decide)))))
theorem oh_f250 {v : Int32} (h : ¬ fX6_within v 1 4 = 0) : 0 + v ≤ 250 := by
  rcases oh_f14 h with rfl | rfl | rfl | rfl <;> decide
def fX6_status (v_a : Int32) : Int32 :=
  if (fX6_within v_a 0 3) = 0 then (if (fX6_within v_a 12 16) = 0 then (if v_a = 4 then 0 else if v_a = 5 then 0 else if v_a = 6 then 0 else if v_a = 7 then 0 else (-1)) else 0) else 0
set_option maxHeartbeats 4000000 in
set_option maxRecDepth 100000 in
theorem c_X6_status (l : Launch) (D : va_G) (E : Nat → ClassId) (G : Nat → Nat) (a0 : Nat) (v_a : Int32) (a0_now : Nat) (a0_kept : Nat) (a0_ways : Nat) (a0_shelves : Nat) (a0_tape : Nat) (a0_reader : Nat) (a0_refusals : Nat) (a0_bestPack : Nat) (a0_now_counts : Nat) (a0_now_roads : Nat) (a0_now_bridges : Nat) (a0_now_waggons : Nat) (a0_now_parts : Nat) (a0_now_settings : Nat) (a0_now_trip : Nat) (a0_tape_bytes : Nat) (a0_shelves_held : Nat) (a0_shelves_size : Nat) (a0_shelves_cells : Nat) : Met l yX6_status (oh_w yX6_status cX6_status 2 (some .int)) ({ frames := 2, cells := 0, slots := 0, locals := 43 }) (oh_Pp D E G [.ref a0, .int v_a] [(a0, .inr (6, [.ref a0_now, .ref a0_kept, .int 0, .ref a0_ways, .ref a0_shelves, .ref a0_tape, .ref a0_reader, .ref a0_refusals, .ref a0_bestPack])), (a0_now, .inr (0, [.ref a0_now_counts, .ref a0_now_roads, .ref a0_now_bridges, .ref a0_now_waggons, .ref a0_now_parts, .ref a0_now_settings, .ref a0_now_trip, .int 0])), (a0_now_counts, .inl (E 0, 4, .inl (fun _ => 0))), (a0_refusals, .inl (E 0, 5, .inl (fun _ => 0))), (a0_tape, .inr (4, [.ref a0_tape_bytes, .int 0, .int (-1), .int 0, .int 0, .int 0])), (a0_shelves, .inr (3, [.ref a0_shelves_held, .ref a0_shelves_size, .ref a0_shelves_cells])), (a0_shelves_held, .inl (E 0, 8, .inl (fun _ => (-1))))]) (vp_Si (fun r => r = fX6_status v_a)) 0 0 (fun _ => False) := by
  refine Met.ofW (cc := cX6_status) (maxL := 2) (ret := (some .int)) (by decide) rfl ?_
  intro p e s m args below meth c s₁ B hml hv
  obtain ⟨rfl, hP, hK, hG⟩ := hv
  have hx := B.exec
  have hb := B.bytes
  have hr := B.returns
  have hts := atoms_spec (ws := (oh_w yX6_status cX6_status 2 (some .int))) B.pre
  have htg : ∀ w ∈ oh_t, w.before _ s = true := fun w h => hts w (List.mem_cons_of_mem _ h)
  have hown : s.vm.findClass RX6 = some m.cls := findClass_of_methodNamed B.named
  have hlocks := B.notSynchronized
  have hS : va_S (fun _ => False) s.heap s.heap [] := va_S.rf
  have hl := lv_entry ([.ref a0, .int v_a]) (n := 2) (Nat.le_of_ble_eq_true rfl)
  rw [lg_entry_eq]
  generalize (lg_sl ([.ref a0, .int v_a]) ++ List.replicate (2 - (lg_sl ([.ref a0, .int v_a])).length) Slot.unset).toArray = ls at hl ⊢
  have hl : lv_has ls 2 [(0, .ref a0), (1, .int v_a)] := hl
  refine lv_iload_n hx hb dX6_status_0 rfl (lv_at hl 1 rfl) ?_
  refine lv_iconst (v := 0) hx hb dX6_status_1 (by decide) ?_
  refine lv_iconst (v := 3) hx hb dX6_status_2 (by decide) ?_
  refine oh_pS (As := [.int v_a, .int 0, .int 3]) (rest := []) (v := fX6_within v_a 0 3) ⟨hx, hb, hml, hown, htg⟩ (c_X6_within l D E G v_a 0 3) (va_cwS 3 htg (oh_gS q_293 q_294 q_66 q_295) rfl rfl rfl pdX6_within ⟨Nat.le_of_ble_eq_true rfl, Nat.le_of_ble_eq_true rfl⟩) hK (hP.sub (ws' := []) [] rfl) hG hS rfl hl.1 rfl (Nat.le_of_ble_eq_true rfl) dX6_status_3 ⟨Nat.le_of_ble_eq_true rfl, Nat.le_of_ble_eq_true rfl⟩ ?_
  refine lv_if_eq (tgt := 19) hx hb dX6_status_6 (by decide) (fun (c_1 : (fX6_within v_a 0 3) = 0) => ?_) (fun (c_1 : ¬ ((fX6_within v_a 0 3) = 0)) => ?_)
  · refine lv_iload_n hx hb dX6_status_19 rfl (lv_at hl 1 rfl) ?_
    refine lv_bipush (v := 12) hx hb dX6_status_20 (by decide) ?_
    refine lv_bipush (v := 16) hx hb dX6_status_22 (by decide) ?_
    refine oh_pS (As := [.int v_a, .int 12, .int 16]) (rest := []) (v := fX6_within v_a 12 16) ⟨hx, hb, hml, hown, htg⟩ (c_X6_within l D E G v_a 12 16) (va_cwS 3 htg (oh_gS q_293 q_294 q_66 q_295) rfl rfl rfl pdX6_within ⟨Nat.le_of_ble_eq_true rfl, Nat.le_of_ble_eq_true rfl⟩) hK (hP.sub (ws' := []) [] rfl) hG hS rfl hl.1 rfl (Nat.le_of_ble_eq_true rfl) dX6_status_24 ⟨Nat.le_of_ble_eq_true rfl, Nat.le_of_ble_eq_true rfl⟩ ?_
    refine lv_if_eq (tgt := 40) hx hb dX6_status_27 (by decide) (fun (c_2 : (fX6_within v_a 12 16) = 0) => ?_) (fun (c_2 : ¬ ((fX6_within v_a 12 16) = 0)) => ?_)
    · refine lv_iload_n hx hb dX6_status_40 rfl (lv_at hl 1 rfl) ?_
      by_cases c_3 : v_a = 4
      · refine lv_tableIn (off := 31) (tgt := 72) hx hb dX6_status_41 (by rw [c_3]; decide) (by rw [c_3]; decide) (by rw [c_3]; decide) (by decide) ?_
        refine lv_aload_n hx hb dX6_status_72 rfl (lv_at hl 0 rfl) ?_
        refine va_get (D := D) (ci := 6) (v := .ref a0_tape) (C := RX6) (T := TX6) (N := 9) hx hb htg ig_6 hown hK hP 0 rfl rfl 5 (by decide) (htg _ q_263) (fun _ h9 => h9) rfl dX6_status_73 ?_
        refine va_get (D := D) (ci := 4) (v := .int 0) (C := RX4) (T := TX4) (N := 6) hx hb htg ig_4 hown hK hP 4 rfl rfl 1 (by decide) (htg _ q_219) (fun _ h9 => h9) rfl dX6_status_76 ?_
        exact W.iret (v := 0) hx hb hr (fun t ht hW => ⟨0, rfl, by unfold fX6_status; rw [if_pos c_1, if_pos c_2, if_pos c_3], ht⟩) (fun q h => by cases h) dX6_status_79
      · by_cases c_4 : v_a = 5
        · refine lv_tableIn (off := 39) (tgt := 80) hx hb dX6_status_41 (by rw [c_4]; decide) (by rw [c_4]; decide) (by rw [c_4]; decide) (by decide) ?_
          refine lv_aload_n hx hb dX6_status_80 rfl (lv_at hl 0 rfl) ?_
          refine va_get (D := D) (ci := 6) (v := .ref a0_shelves) (C := RX6) (T := TX6) (N := 9) hx hb htg ig_6 hown hK hP 0 rfl rfl 4 (by decide) (htg _ q_262) (fun _ h9 => h9) rfl dX6_status_81 ?_
          refine oh_pV (As := []) (rest := []) (v := 0) ⟨hx, hb, hml, hown, htg⟩ (c_X3_countHeld l D E G a0_shelves a0_shelves_held a0_shelves_size a0_shelves_cells) (cwV 0 htg (oh_gV q_955 q_956 q_957 q_70 q_958) rfl rfl rfl pdVX3_countHeld ⟨Nat.le_of_ble_eq_true rfl, Nat.le_of_ble_eq_true rfl⟩) hK (hP.sub (ws' := [(a0_shelves, .inr (3, [.ref a0_shelves_held, .ref a0_shelves_size, .ref a0_shelves_cells])), (a0_shelves_held, .inl (E 0, 8, .inl (fun _ => (-1))))]) [5, 6] rfl) hG hS (va_recv hK hP (ci := 3) (q0 := 5) rfl rfl) rfl hl.1 rfl (Nat.le_of_ble_eq_true rfl) dX6_status_84 ⟨Nat.le_of_ble_eq_true rfl, Nat.le_of_ble_eq_true rfl⟩ ?_
          exact W.iret (v := 0) hx hb hr (fun t ht hW => ⟨0, rfl, by unfold fX6_status; rw [if_pos c_1, if_pos c_2, if_neg c_3, if_pos c_4], ht⟩) (fun q h => by cases h) dX6_status_87
        · by_cases c_5 : v_a = 6
          · refine lv_tableIn (off := 47) (tgt := 88) hx hb dX6_status_41 (by rw [c_5]; decide) (by rw [c_5]; decide) (by rw [c_5]; decide) (by decide) ?_
            refine lv_aload_n hx hb dX6_status_88 rfl (lv_at hl 0 rfl) ?_
            refine va_get (D := D) (ci := 6) (v := .ref a0_now) (C := RX6) (T := TX6) (N := 9) hx hb htg ig_6 hown hK hP 0 rfl rfl 0 (by decide) (htg _ q_258) (fun _ h9 => h9) rfl dX6_status_89 ?_
            refine lv_bipush (v := 7) hx hb dX6_status_92 (by decide) ?_
            refine oh_pV (As := [.int 7]) (rest := []) (v := 0) ⟨hx, hb, hml, hown, htg⟩ (c_X0_countBridges l D E G a0_now 7 a0_now_counts a0_now_roads a0_now_bridges a0_now_waggons a0_now_parts a0_now_settings a0_now_trip) (cwV 1 htg (oh_gV q_959 q_960 q_961 q_67 q_962) rfl rfl rfl pdVX0_countBridges ⟨Nat.le_of_ble_eq_true rfl, Nat.le_of_ble_eq_true rfl⟩) hK (hP.sub (ws' := [(a0_now, .inr (0, [.ref a0_now_counts, .ref a0_now_roads, .ref a0_now_bridges, .ref a0_now_waggons, .ref a0_now_parts, .ref a0_now_settings, .ref a0_now_trip, .int 0])), (a0_now_counts, .inl (E 0, 4, .inl (fun _ => 0)))]) [1, 2] rfl) hG hS (va_recv hK hP (ci := 0) (q0 := 1) rfl rfl) rfl hl.1 rfl (Nat.le_of_ble_eq_true rfl) dX6_status_94 ⟨Nat.le_of_ble_eq_true rfl, Nat.le_of_ble_eq_true rfl⟩ ?_
            exact W.iret (v := 0) hx hb hr (fun t ht hW => ⟨0, rfl, by unfold fX6_status; rw [if_pos c_1, if_pos c_2, if_neg c_3, if_neg c_4, if_pos c_5], ht⟩) (fun q h => by cases h) dX6_status_97
          · by_cases c_6 : v_a = 7
            · refine lv_tableIn (off := 57) (tgt := 98) hx hb dX6_status_41 (by rw [c_6]; decide) (by rw [c_6]; decide) (by rw [c_6]; decide) (by decide) ?_
              refine lv_aload_n hx hb dX6_status_98 rfl (lv_at hl 0 rfl) ?_
              refine va_get (D := D) (ci := 6) (v := .ref a0_now) (C := RX6) (T := TX6) (N := 9) hx hb htg ig_6 hown hK hP 0 rfl rfl 0 (by decide) (htg _ q_258) (fun _ h9 => h9) rfl dX6_status_99 ?_
              refine lv_bipush (v := 8) hx hb dX6_status_102 (by decide) ?_
              refine oh_pV (As := [.int 8]) (rest := []) (v := 0) ⟨hx, hb, hml, hown, htg⟩ (c_X0_countBridges l D E G a0_now 8 a0_now_counts a0_now_roads a0_now_bridges a0_now_waggons a0_now_parts a0_now_settings a0_now_trip) (cwV 1 htg (oh_gV q_959 q_960 q_961 q_67 q_962) rfl rfl rfl pdVX0_countBridges ⟨Nat.le_of_ble_eq_true rfl, Nat.le_of_ble_eq_true rfl⟩) hK (hP.sub (ws' := [(a0_now, .inr (0, [.ref a0_now_counts, .ref a0_now_roads, .ref a0_now_bridges, .ref a0_now_waggons, .ref a0_now_parts, .ref a0_now_settings, .ref a0_now_trip, .int 0])), (a0_now_counts, .inl (E 0, 4, .inl (fun _ => 0)))]) [1, 2] rfl) hG hS (va_recv hK hP (ci := 0) (q0 := 1) rfl rfl) rfl hl.1 rfl (Nat.le_of_ble_eq_true rfl) dX6_status_104 ⟨Nat.le_of_ble_eq_true rfl, Nat.le_of_ble_eq_true rfl⟩ ?_
              exact W.iret (v := 0) hx hb hr (fun t ht hW => ⟨0, rfl, by unfold fX6_status; rw [if_pos c_1, if_pos c_2, if_neg c_3, if_neg c_4, if_neg c_5, if_pos c_6], ht⟩) (fun q h => by cases h) dX6_status_107
            · refine lv_tableOut (tgt := 108) hx hb dX6_status_41 (by have h9 := And.intro (oh_ne c_3 (k := 4) (by decide)) (And.intro (oh_ne c_4 (k := 5) (by decide)) (And.intro (oh_ne c_5 (k := 6) (by decide)) (And.intro (oh_ne c_6 (k := 7) (by decide)) trivial))); omega) (by decide) ?_
              refine lv_iconst (v := (-1)) hx hb dX6_status_108 (by decide) ?_
              exact W.iret (v := (-1)) hx hb hr (fun t ht hW => ⟨(-1), rfl, by unfold fX6_status; rw [if_pos c_1, if_pos c_2, if_neg c_3, if_neg c_4, if_neg c_5, if_neg c_6], ht⟩) (fun q h => by cases h) dX6_status_109
    · refine lv_aload_n hx hb dX6_status_30 rfl (lv_at hl 0 rfl) ?_
      refine va_get (D := D) (ci := 6) (v := .ref a0_refusals) (C := RX6) (T := TX6) (N := 9) hx hb htg ig_6 hown hK hP 0 rfl rfl 7 (by decide) (htg _ q_265) (fun _ h9 => h9) rfl dX6_status_31 ?_
      refine lv_iload_n hx hb dX6_status_34 rfl (lv_at hl 1 rfl) ?_
      refine lv_bipush (v := 12) hx hb dX6_status_35 (by decide) ?_
      refine lv_isub hx hb dX6_status_37 ?_
      refine va_iald hx hb hK hP 3 0 rfl rfl (oh_w12 c_2) dX6_status_38 ?_
      refine oh_nrm (v := 0) (by rfl) ?_
      exact W.iret (v := 0) hx hb hr (fun t ht hW => ⟨0, rfl, by unfold fX6_status; rw [if_pos c_1, if_neg c_2], ht⟩) (fun q h => by cases h) dX6_status_39
  · refine lv_aload_n hx hb dX6_status_9 rfl (lv_at hl 0 rfl) ?_
    refine va_get (D := D) (ci := 6) (v := .ref a0_now) (C := RX6) (T := TX6) (N := 9) hx hb htg ig_6 hown hK hP 0 rfl rfl 0 (by decide) (htg _ q_258) (fun _ h9 => h9) rfl dX6_status_10 ?_
    refine va_get (D := D) (ci := 0) (v := .ref a0_now_counts) (C := RX0) (T := TX0) (N := 8) hx hb htg ig_0 hown hK hP 1 rfl rfl 0 (by decide) (htg _ q_100) (fun _ h9 => h9) rfl dX6_status_13 ?_
    refine lv_iload_n hx hb dX6_status_16 rfl (lv_at hl 1 rfl) ?_
    refine va_iald hx hb hK hP 2 0 rfl rfl (oh_win c_1 (by decide)) dX6_status_17 ?_
    refine oh_nrm (v := 0) (by rfl) ?_
    exact W.iret (v := 0) hx hb hr (fun t ht hW => ⟨0, rfl, by unfold fX6_status; rw [if_neg c_1], ht⟩) (fun q h => by cases h) dX6_status_18
set_option maxHeartbeats 4000000 in
set_option maxRecDepth 100000 in
theorem c_X6_findBest (l : Launch) (D : va_G) (E : Nat → ClassId) (G : Nat → Nat) (sz : Nat) (a0 : Nat) (v_a : Int32) (v_b : Int32) (a0_now : Nat) (a0_kept : Nat) (a0_ways : Nat) (a0_shelves : Nat) (a0_tape : Nat) (a0_reader : Nat) (a0_refusals : Nat) (a0_bestPack : Nat) (a0_now_counts : Nat) (a0_now_roads : Nat) (a0_now_bridges : Nat) (a0_now_waggons : Nat) (a0_now_parts : Nat) (a0_now_settings : Nat) (a0_now_trip : Nat) : Met l yX6_findBest (oh_w yX6_findBest cX6_findBest 6 none) ({ frames := 0, cells := 0, slots := 0, locals := 0 }) (oh_Pm D E G [.ref a0, .int v_a, .int v_b] [(a0, .inr (6, [.ref a0_now, .ref a0_kept, .int 0, .ref a0_ways, .ref a0_shelves, .ref a0_tape, .ref a0_reader, .ref a0_refusals, .ref a0_bestPack])), (a0_now, .inr (0, [.ref a0_now_counts, .ref a0_now_roads, .ref a0_now_bridges, .ref a0_now_waggons, .ref a0_now_parts, .ref a0_now_settings, .ref a0_now_trip, .int 0])), (a0_now_counts, .inl (E 0, 4, .inl (fun _ => 0))), (a0_bestPack, .inl (E 0, 3, .inl (fun _ => 0)))] sz) (va_Qv (fun (_ : Unit) => True) (oh_B D (va_A [(a0, .inr (6, [.ref a0_now, .ref a0_kept, .int 0, .ref a0_ways, .ref a0_shelves, .ref a0_tape, .ref a0_reader, .ref a0_refusals, .ref a0_bestPack])), (a0_now, .inr (0, [.ref a0_now_counts, .ref a0_now_roads, .ref a0_now_bridges, .ref a0_now_waggons, .ref a0_now_parts, .ref a0_now_settings, .ref a0_now_trip, .int 0])), (a0_now_counts, .inl (E 0, 4, .inl (fun _ => 0))), (a0_bestPack, .inl (E 0, 3, .inl (fun _ => 0)))] sz) (fun _ => [(a0, .inr (6, [.ref a0_now, .ref a0_kept, .int 0, .ref a0_ways, .ref a0_shelves, .ref a0_tape, .ref a0_reader, .ref a0_refusals, .ref a0_bestPack])), (a0_now, .inr (0, [.ref a0_now_counts, .ref a0_now_roads, .ref a0_now_bridges, .ref a0_now_waggons, .ref a0_now_parts, .ref a0_now_settings, .ref a0_now_trip, .int 0])), (a0_now_counts, .inl (E 0, 4, .inl (fun _ => 0))), (a0_bestPack, .inl (E 0, 3, .inl (upd (fun _ => 0) 2 1000000000)))])) (va_A [(a0, .inr (6, [.ref a0_now, .ref a0_kept, .int 0, .ref a0_ways, .ref a0_shelves, .ref a0_tape, .ref a0_reader, .ref a0_refusals, .ref a0_bestPack])), (a0_now, .inr (0, [.ref a0_now_counts, .ref a0_now_roads, .ref a0_now_bridges, .ref a0_now_waggons, .ref a0_now_parts, .ref a0_now_settings, .ref a0_now_trip, .int 0])), (a0_now_counts, .inl (E 0, 4, .inl (fun _ => 0))), (a0_bestPack, .inl (E 0, 3, .inl (fun _ => 0)))] sz)) 0 0 (va_A [(a0, .inr (6, [.ref a0_now, .ref a0_kept, .int 0, .ref a0_ways, .ref a0_shelves, .ref a0_tape, .ref a0_reader, .ref a0_refusals, .ref a0_bestPack])), (a0_now, .inr (0, [.ref a0_now_counts, .ref a0_now_roads, .ref a0_now_bridges, .ref a0_now_waggons, .ref a0_now_parts, .ref a0_now_settings, .ref a0_now_trip, .int 0])), (a0_now_counts, .inl (E 0, 4, .inl (fun _ => 0))), (a0_bestPack, .inl (E 0, 3, .inl (fun _ => 0)))] sz) := by
  refine Met.ofW (cc := cX6_findBest) (maxL := 6) (ret := none) (by decide) rfl ?_
  intro p e s m args below meth c s₁ B hml hv
  obtain ⟨rfl, hsz, hP, hK, hD0, hG⟩ := hv
  have hx := B.exec
  have hb := B.bytes
  have hr := B.returns
  have hts := atoms_spec (ws := (oh_w yX6_findBest cX6_findBest 6 none)) B.pre
  have htg : ∀ w ∈ oh_t, w.before _ s = true := fun w h => hts w (List.mem_cons_of_mem _ h)
  have hown : s.vm.findClass RX6 = some m.cls := findClass_of_methodNamed B.named
  have hlocks := B.notSynchronized
  subst hsz
  have hD := hD0.self (sz := s.heap.size)
  generalize hAe : va_A [(a0, .inr (6, [.ref a0_now, .ref a0_kept, .int 0, .ref a0_ways, .ref a0_shelves, .ref a0_tape, .ref a0_reader, .ref a0_refusals, .ref a0_bestPack])), (a0_now, .inr (0, [.ref a0_now_counts, .ref a0_now_roads, .ref a0_now_bridges, .ref a0_now_waggons, .ref a0_now_parts, .ref a0_now_settings, .ref a0_now_trip, .int 0])), (a0_now_counts, .inl (E 0, 4, .inl (fun _ => 0))), (a0_bestPack, .inl (E 0, 3, .inl (fun _ => 0)))] s.heap.size = A at hD hG ⊢
  have hA : ∀ q : Nat, s.heap.size ≤ q → A q := fun q h => by rw [← hAe]; exact Or.inr h
  have hS : va_S A s.heap s.heap [] := va_S.rf
  have hP : va_P D vwCl [(a0, .inr (6, [.ref a0_now, .ref a0_kept, .int 0, .ref a0_ways, .ref a0_shelves, .ref a0_tape, .ref a0_reader, .ref a0_refusals, .ref a0_bestPack])), (a0_now, .inr (0, [.ref a0_now_counts, .ref a0_now_roads, .ref a0_now_bridges, .ref a0_now_waggons, .ref a0_now_parts, .ref a0_now_settings, .ref a0_now_trip, .int 0])), (a0_now_counts, .inl (E 0, 4, .inl (fun _ => 0))), (a0_bestPack, .inl (E 0, 3, .inl (fun _ => 0)))] s.heap := hP
  have hl := lv_entry ([.ref a0, .int v_a, .int v_b]) (n := 6) (Nat.le_of_ble_eq_true rfl)
  rw [lg_entry_eq]
  generalize (lg_sl ([.ref a0, .int v_a, .int v_b]) ++ List.replicate (6 - (lg_sl ([.ref a0, .int v_a, .int v_b])).length) Slot.unset).toArray = ls at hl ⊢
  have hl : lv_has ls 6 [(0, .ref a0), (1, .int v_a), (2, .int v_b)] := hl
  refine lv_aload_n hx hb dX6_findBest_0 rfl (lv_at hl 0 rfl) ?_
  refine va_get (D := D) (ci := 6) (v := .ref a0_bestPack) (C := RX6) (T := TX6) (N := 9) hx hb htg ig_6 hown hK hP 0 rfl rfl 8 (by decide) (htg _ q_266) (fun _ h9 => h9) rfl dX6_findBest_1 ?_
  refine lv_iconst (v := 2) hx hb dX6_findBest_4 (by decide) ?_
  refine lv_ldc (v := 1000000000) hx hb hown (htg _ q_803) dX6_findBest_5 ?_
  refine va_iast hx hb hK hP hD hS 3 0 rfl rfl (show vp_in 2 3 by unfold vp_in; decide) dX6_findBest_7 (fun H locs hP hD hS => ?_)
  have hP : va_P D vwCl [(a0, .inr (6, [.ref a0_now, .ref a0_kept, .int 0, .ref a0_ways, .ref a0_shelves, .ref a0_tape, .ref a0_reader, .ref a0_refusals, .ref a0_bestPack])), (a0_now, .inr (0, [.ref a0_now_counts, .ref a0_now_roads, .ref a0_now_bridges, .ref a0_now_waggons, .ref a0_now_parts, .ref a0_now_settings, .ref a0_now_trip, .int 0])), (a0_now_counts, .inl (E 0, 4, .inl (fun _ => 0))), (a0_bestPack, .inl (E 0, 3, .inl (upd (fun _ => 0) 2 1000000000)))] H := hP
  have hD : va_D A [(a0, .inr (6, [.ref a0_now, .ref a0_kept, .int 0, .ref a0_ways, .ref a0_shelves, .ref a0_tape, .ref a0_reader, .ref a0_refusals, .ref a0_bestPack])), (a0_now, .inr (0, [.ref a0_now_counts, .ref a0_now_roads, .ref a0_now_bridges, .ref a0_now_waggons, .ref a0_now_parts, .ref a0_now_settings, .ref a0_now_trip, .int 0])), (a0_now_counts, .inl (E 0, 4, .inl (fun _ => 0))), (a0_bestPack, .inl (E 0, 3, .inl (upd (fun _ => 0) 2 1000000000)))] := hD
  refine lv_iconst (v := 0) hx hb dX6_findBest_8 (by decide) ?_
  refine lv_istore_n (lv' := [(3, .int 0), (0, .ref a0), (1, .int v_a), (2, .int v_b)]) hx hb dX6_findBest_9 rfl hl (by decide) rfl (fun ls hl => ?_)
  refine lv_iload_n hx hb dX6_findBest_10 rfl (lv_at hl 0 rfl) ?_
  refine lv_aload_n hx hb dX6_findBest_11 rfl (lv_at hl 1 rfl) ?_
  refine va_get (D := D) (ci := 6) (v := .ref a0_now) (C := RX6) (T := TX6) (N := 9) hx hb htg ig_6 hown hK hP 0 rfl rfl 0 (by decide) (htg _ q_258) (fun _ h9 => h9) rfl dX6_findBest_12 ?_
  refine va_get (D := D) (ci := 0) (v := .ref a0_now_counts) (C := RX0) (T := TX0) (N := 8) hx hb htg ig_0 hown hK hP 1 rfl rfl 0 (by decide) (htg _ q_100) (fun _ h9 => h9) rfl dX6_findBest_15 ?_
  refine lv_iconst (v := 2) hx hb dX6_findBest_18 (by decide) ?_
  refine va_iald hx hb hK hP 2 0 rfl rfl (show vp_in 2 4 by unfold vp_in; decide) dX6_findBest_19 ?_
  refine oh_nrm (v := 0) (by decide) ?_
  refine lv_icmp_ge (tgt := 118) hx hb dX6_findBest_20 (by decide) (fun _ => ?_) (fun c => absurd (show 0 ≤ (0 : Int32) from by decide) c)
  refine W.widen (k := 0) (n := 0) (Nat.le_of_ble_eq_true rfl) (Nat.le_of_ble_eq_true rfl) ?_
  exact W.vret hx hb hr (fun t ht hW => ⟨⟨(), rfl, trivial, ⟨by rw [ht]; exact hP.sub [0, 1, 2, 3] rfl, hD.sub [0, 1, 2, 3] (by decide) rfl⟩⟩, hS.F ht⟩) hS.2.2 dX6_findBest_118
def fX6_best (v_a : Int32) (v_b : Int32) (v_c : Int32) : Int32 :=
  if (fX6_within v_a 0 15) = 0 then (-2) else if (fX6_within v_b 0 15) = 0 then (-2) else if (fX6_within v_c 0 2) = 0 then (-2) else (-5)
set_option maxHeartbeats 4000000 in
set_option maxRecDepth 100000 in
theorem c_X6_best (l : Launch) (D : va_G) (E : Nat → ClassId) (G : Nat → Nat) (sz : Nat) (a0 : Nat) (v_a : Int32) (v_b : Int32) (v_c : Int32) (a0_now : Nat) (a0_kept : Nat) (a0_ways : Nat) (a0_shelves : Nat) (a0_tape : Nat) (a0_reader : Nat) (a0_refusals : Nat) (a0_bestPack : Nat) (a0_now_counts : Nat) (a0_now_roads : Nat) (a0_now_bridges : Nat) (a0_now_waggons : Nat) (a0_now_parts : Nat) (a0_now_settings : Nat) (a0_now_trip : Nat) : Met l yX6_best (oh_w yX6_best cX6_best 4 (some .int)) ({ frames := 2, cells := 0, slots := 0, locals := 44 }) (oh_Pm D E G [.ref a0, .int v_a, .int v_b, .int v_c] [(a0, .inr (6, [.ref a0_now, .ref a0_kept, .int 0, .ref a0_ways, .ref a0_shelves, .ref a0_tape, .ref a0_reader, .ref a0_refusals, .ref a0_bestPack])), (a0_now, .inr (0, [.ref a0_now_counts, .ref a0_now_roads, .ref a0_now_bridges, .ref a0_now_waggons, .ref a0_now_parts, .ref a0_now_settings, .ref a0_now_trip, .int 0])), (a0_now_counts, .inl (E 0, 4, .inl (fun _ => 0))), (a0_bestPack, .inl (E 0, 3, .inl (fun _ => 0))), (a0_refusals, .inl (E 0, 5, .inl (fun _ => 0)))] sz) (va_Qi (fun r (_ : Unit) => r = fX6_best v_a v_b v_c) (oh_B D (va_A [(a0, .inr (6, [.ref a0_now, .ref a0_kept, .int 0, .ref a0_ways, .ref a0_shelves, .ref a0_tape, .ref a0_reader, .ref a0_refusals, .ref a0_bestPack])), (a0_now, .inr (0, [.ref a0_now_counts, .ref a0_now_roads, .ref a0_now_bridges, .ref a0_now_waggons, .ref a0_now_parts, .ref a0_now_settings, .ref a0_now_trip, .int 0])), (a0_now_counts, .inl (E 0, 4, .inl (fun _ => 0))), (a0_bestPack, .inl (E 0, 3, .inl (fun _ => 0))), (a0_refusals, .inl (E 0, 5, .inl (fun _ => 0)))] sz) (fun _ => [])) (va_A [(a0, .inr (6, [.ref a0_now, .ref a0_kept, .int 0, .ref a0_ways, .ref a0_shelves, .ref a0_tape, .ref a0_reader, .ref a0_refusals, .ref a0_bestPack])), (a0_now, .inr (0, [.ref a0_now_counts, .ref a0_now_roads, .ref a0_now_bridges, .ref a0_now_waggons, .ref a0_now_parts, .ref a0_now_settings, .ref a0_now_trip, .int 0])), (a0_now_counts, .inl (E 0, 4, .inl (fun _ => 0))), (a0_bestPack, .inl (E 0, 3, .inl (fun _ => 0))), (a0_refusals, .inl (E 0, 5, .inl (fun _ => 0)))] sz)) 0 0 (va_A [(a0, .inr (6, [.ref a0_now, .ref a0_kept, .int 0, .ref a0_ways, .ref a0_shelves, .ref a0_tape, .ref a0_reader, .ref a0_refusals, .ref a0_bestPack])), (a0_now, .inr (0, [.ref a0_now_counts, .ref a0_now_roads, .ref a0_now_bridges, .ref a0_now_waggons, .ref a0_now_parts, .ref a0_now_settings, .ref a0_now_trip, .int 0])), (a0_now_counts, .inl (E 0, 4, .inl (fun _ => 0))), (a0_bestPack, .inl (E 0, 3, .inl (fun _ => 0))), (a0_refusals, .inl (E 0, 5, .inl (fun _ => 0)))] sz) := by
  refine Met.ofW (cc := cX6_best) (maxL := 4) (ret := (some .int)) (by decide) rfl ?_
  intro p e s m args below meth c s₁ B hml hv
  obtain ⟨rfl, hsz, hP, hK, hD0, hG⟩ := hv
  have hx := B.exec
  have hb := B.bytes
  have hr := B.returns
  have hts := atoms_spec (ws := (oh_w yX6_best cX6_best 4 (some .int))) B.pre
  have htg : ∀ w ∈ oh_t, w.before _ s = true := fun w h => hts w (List.mem_cons_of_mem _ h)
  have hown : s.vm.findClass RX6 = some m.cls := findClass_of_methodNamed B.named
  have hlocks := B.notSynchronized
  subst hsz
  have hD := hD0.self (sz := s.heap.size)
  generalize hAe : va_A [(a0, .inr (6, [.ref a0_now, .ref a0_kept, .int 0, .ref a0_ways, .ref a0_shelves, .ref a0_tape, .ref a0_reader, .ref a0_refusals, .ref a0_bestPack])), (a0_now, .inr (0, [.ref a0_now_counts, .ref a0_now_roads, .ref a0_now_bridges, .ref a0_now_waggons, .ref a0_now_parts, .ref a0_now_settings, .ref a0_now_trip, .int 0])), (a0_now_counts, .inl (E 0, 4, .inl (fun _ => 0))), (a0_bestPack, .inl (E 0, 3, .inl (fun _ => 0))), (a0_refusals, .inl (E 0, 5, .inl (fun _ => 0)))] s.heap.size = A at hD hG ⊢
  have hA : ∀ q : Nat, s.heap.size ≤ q → A q := fun q h => by rw [← hAe]; exact Or.inr h
  have hS : va_S A s.heap s.heap [] := va_S.rf
  have hP : va_P D vwCl [(a0, .inr (6, [.ref a0_now, .ref a0_kept, .int 0, .ref a0_ways, .ref a0_shelves, .ref a0_tape, .ref a0_reader, .ref a0_refusals, .ref a0_bestPack])), (a0_now, .inr (0, [.ref a0_now_counts, .ref a0_now_roads, .ref a0_now_bridges, .ref a0_now_waggons, .ref a0_now_parts, .ref a0_now_settings, .ref a0_now_trip, .int 0])), (a0_now_counts, .inl (E 0, 4, .inl (fun _ => 0))), (a0_bestPack, .inl (E 0, 3, .inl (fun _ => 0))), (a0_refusals, .inl (E 0, 5, .inl (fun _ => 0)))] s.heap := hP
  have hl := lv_entry ([.ref a0, .int v_a, .int v_b, .int v_c]) (n := 4) (Nat.le_of_ble_eq_true rfl)
  rw [lg_entry_eq]
  generalize (lg_sl ([.ref a0, .int v_a, .int v_b, .int v_c]) ++ List.replicate (4 - (lg_sl ([.ref a0, .int v_a, .int v_b, .int v_c])).length) Slot.unset).toArray = ls at hl ⊢
  have hl : lv_has ls 4 [(0, .ref a0), (1, .int v_a), (2, .int v_b), (3, .int v_c)] := hl
  refine lv_iload_n hx hb dX6_best_0 rfl (lv_at hl 1 rfl) ?_
  refine oh_pS (As := [.int v_a]) (rest := []) (v := fX6_within v_a 0 15) ⟨hx, hb, hml, hown, htg⟩ (c_X6_isPlace l D E G v_a) (va_cwS 1 htg (oh_gS q_413 q_414 q_66 q_415) rfl rfl rfl pdX6_isPlace ⟨Nat.le_of_ble_eq_true rfl, Nat.le_of_ble_eq_true rfl⟩) hK (hP.sub (ws' := []) [] rfl) hG hS rfl hl.1 rfl (Nat.le_of_ble_eq_true rfl) dX6_best_1 ⟨Nat.le_of_ble_eq_true rfl, Nat.le_of_ble_eq_true rfl⟩ ?_
  refine lv_if_eq (tgt := 23) hx hb dX6_best_4 (by decide) (fun (c_1 : (fX6_within v_a 0 15) = 0) => ?_) (fun (c_1 : ¬ ((fX6_within v_a 0 15) = 0)) => ?_)
  · refine lv_aload_n hx hb dX6_best_23 rfl (lv_at hl 0 rfl) ?_
    refine lv_bipush (v := (-2)) hx hb dX6_best_24 (by decide) ?_
    refine oh_mV (As := [.int (-2)]) (rest := []) (wr := [(a0_now, .inr (0, [.ref a0_now_counts, .ref a0_now_roads, .ref a0_now_bridges, .ref a0_now_waggons, .ref a0_now_parts, .ref a0_now_settings, .ref a0_now_trip, .int 0])), (a0_now_counts, .inl (E 0, 4, .inl (fun _ => 0))), (a0_bestPack, .inl (E 0, 3, .inl (fun _ => 0)))]) ⟨hx, hb, hml, hown, htg⟩ (c_X6_refuse l D E G s.heap.size a0 (-2) a0_now a0_kept a0_ways a0_shelves a0_tape a0_reader a0_refusals a0_bestPack) (cwV 1 htg (oh_gV q_296 q_298 q_0 q_66 q_299) rfl rfl rfl pdVX6_refuse ⟨Nat.le_of_ble_eq_true rfl, Nat.le_of_ble_eq_true rfl⟩) hK hP hD hG hS hA [0, 4] [1, 2, 3] rfl rfl (by decide) (by decide) (by decide) (va_recv hK hP (ci := 6) (q0 := 0) rfl rfl) rfl hl.1 rfl (Nat.le_of_ble_eq_true rfl) dX6_best_26 ⟨Nat.le_of_ble_eq_true rfl, Nat.le_of_ble_eq_true rfl⟩ (fun r_1 u H locs hw hP hD hS => ?_)
    subst hw
    have hP : va_P D vwCl [(a0_now, .inr (0, [.ref a0_now_counts, .ref a0_now_roads, .ref a0_now_bridges, .ref a0_now_waggons, .ref a0_now_parts, .ref a0_now_settings, .ref a0_now_trip, .int 0])), (a0_now_counts, .inl (E 0, 4, .inl (fun _ => 0))), (a0_bestPack, .inl (E 0, 3, .inl (fun _ => 0))), (a0, .inr (6, [.ref a0_now, .ref a0_kept, .int 0, .ref a0_ways, .ref a0_shelves, .ref a0_tape, .ref a0_reader, .ref a0_refusals, .ref a0_bestPack]))] H := hP
    have hD : va_D A [(a0_now, .inr (0, [.ref a0_now_counts, .ref a0_now_roads, .ref a0_now_bridges, .ref a0_now_waggons, .ref a0_now_parts, .ref a0_now_settings, .ref a0_now_trip, .int 0])), (a0_now_counts, .inl (E 0, 4, .inl (fun _ => 0))), (a0_bestPack, .inl (E 0, 3, .inl (fun _ => 0))), (a0, .inr (6, [.ref a0_now, .ref a0_kept, .int 0, .ref a0_ways, .ref a0_shelves, .ref a0_tape, .ref a0_reader, .ref a0_refusals, .ref a0_bestPack]))] := hD
    refine W.widen (k := 0) (n := 0) (Nat.le_refl _) (Nat.le_refl _) ?_
    refine W.widen (k := 0) (n := 0) (Nat.le_of_ble_eq_true rfl) (Nat.le_of_ble_eq_true rfl) ?_
    exact W.iret (v := (-2)) hx hb hr (fun t ht hW => ⟨⟨(-2), (), rfl, by unfold fX6_best; rw [if_pos c_1], ⟨by rw [ht]; exact hP.sub [] rfl, hD.sub [] (by decide) rfl⟩⟩, hS.F ht⟩) hS.2.2 dX6_best_29
  · refine lv_iload_n hx hb dX6_best_7 rfl (lv_at hl 2 rfl) ?_
    refine oh_pS (As := [.int v_b]) (rest := []) (v := fX6_within v_b 0 15) ⟨hx, hb, hml, hown, htg⟩ (c_X6_isPlace l D E G v_b) (va_cwS 1 htg (oh_gS q_413 q_414 q_66 q_415) rfl rfl rfl pdX6_isPlace ⟨Nat.le_of_ble_eq_true rfl, Nat.le_of_ble_eq_true rfl⟩) hK (hP.sub (ws' := []) [] rfl) hG hS rfl hl.1 rfl (Nat.le_of_ble_eq_true rfl) dX6_best_8 ⟨Nat.le_of_ble_eq_true rfl, Nat.le_of_ble_eq_true rfl⟩ ?_
    refine lv_if_eq (tgt := 23) hx hb dX6_best_11 (by decide) (fun (c_2 : (fX6_within v_b 0 15) = 0) => ?_) (fun (c_2 : ¬ ((fX6_within v_b 0 15) = 0)) => ?_)
    · refine lv_aload_n hx hb dX6_best_23 rfl (lv_at hl 0 rfl) ?_
      refine lv_bipush (v := (-2)) hx hb dX6_best_24 (by decide) ?_
      refine oh_mV (As := [.int (-2)]) (rest := []) (wr := [(a0_now, .inr (0, [.ref a0_now_counts, .ref a0_now_roads, .ref a0_now_bridges, .ref a0_now_waggons, .ref a0_now_parts, .ref a0_now_settings, .ref a0_now_trip, .int 0])), (a0_now_counts, .inl (E 0, 4, .inl (fun _ => 0))), (a0_bestPack, .inl (E 0, 3, .inl (fun _ => 0)))]) ⟨hx, hb, hml, hown, htg⟩ (c_X6_refuse l D E G s.heap.size a0 (-2) a0_now a0_kept a0_ways a0_shelves a0_tape a0_reader a0_refusals a0_bestPack) (cwV 1 htg (oh_gV q_296 q_298 q_0 q_66 q_299) rfl rfl rfl pdVX6_refuse ⟨Nat.le_of_ble_eq_true rfl, Nat.le_of_ble_eq_true rfl⟩) hK hP hD hG hS hA [0, 4] [1, 2, 3] rfl rfl (by decide) (by decide) (by decide) (va_recv hK hP (ci := 6) (q0 := 0) rfl rfl) rfl hl.1 rfl (Nat.le_of_ble_eq_true rfl) dX6_best_26 ⟨Nat.le_of_ble_eq_true rfl, Nat.le_of_ble_eq_true rfl⟩ (fun r_2 u H locs hw hP hD hS => ?_)
      subst hw
      have hP : va_P D vwCl [(a0_now, .inr (0, [.ref a0_now_counts, .ref a0_now_roads, .ref a0_now_bridges, .ref a0_now_waggons, .ref a0_now_parts, .ref a0_now_settings, .ref a0_now_trip, .int 0])), (a0_now_counts, .inl (E 0, 4, .inl (fun _ => 0))), (a0_bestPack, .inl (E 0, 3, .inl (fun _ => 0))), (a0, .inr (6, [.ref a0_now, .ref a0_kept, .int 0, .ref a0_ways, .ref a0_shelves, .ref a0_tape, .ref a0_reader, .ref a0_refusals, .ref a0_bestPack]))] H := hP
      have hD : va_D A [(a0_now, .inr (0, [.ref a0_now_counts, .ref a0_now_roads, .ref a0_now_bridges, .ref a0_now_waggons, .ref a0_now_parts, .ref a0_now_settings, .ref a0_now_trip, .int 0])), (a0_now_counts, .inl (E 0, 4, .inl (fun _ => 0))), (a0_bestPack, .inl (E 0, 3, .inl (fun _ => 0))), (a0, .inr (6, [.ref a0_now, .ref a0_kept, .int 0, .ref a0_ways, .ref a0_shelves, .ref a0_tape, .ref a0_reader, .ref a0_refusals, .ref a0_bestPack]))] := hD
      refine W.widen (k := 0) (n := 0) (Nat.le_refl _) (Nat.le_refl _) ?_
      refine W.widen (k := 0) (n := 0) (Nat.le_of_ble_eq_true rfl) (Nat.le_of_ble_eq_true rfl) ?_
      exact W.iret (v := (-2)) hx hb hr (fun t ht hW => ⟨⟨(-2), (), rfl, by unfold fX6_best; rw [if_neg c_1, if_pos c_2], ⟨by rw [ht]; exact hP.sub [] rfl, hD.sub [] (by decide) rfl⟩⟩, hS.F ht⟩) hS.2.2 dX6_best_29
    · refine lv_iload_n hx hb dX6_best_14 rfl (lv_at hl 3 rfl) ?_
      refine lv_iconst (v := 0) hx hb dX6_best_15 (by decide) ?_
      refine lv_iconst (v := 2) hx hb dX6_best_16 (by decide) ?_
      refine oh_pS (As := [.int v_c, .int 0, .int 2]) (rest := []) (v := fX6_within v_c 0 2) ⟨hx, hb, hml, hown, htg⟩ (c_X6_within l D E G v_c 0 2) (va_cwS 3 htg (oh_gS q_293 q_294 q_66 q_295) rfl rfl rfl pdX6_within ⟨Nat.le_of_ble_eq_true rfl, Nat.le_of_ble_eq_true rfl⟩) hK (hP.sub (ws' := []) [] rfl) hG hS rfl hl.1 rfl (Nat.le_of_ble_eq_true rfl) dX6_best_17 ⟨Nat.le_of_ble_eq_true rfl, Nat.le_of_ble_eq_true rfl⟩ ?_
      refine lv_if_ne (tgt := 30) hx hb dX6_best_20 (by decide) (fun (c_3 : ¬ ((fX6_within v_c 0 2) = 0)) => ?_) (fun (c_3 : (fX6_within v_c 0 2) = 0) => ?_)
      · refine lv_aload_n hx hb dX6_best_30 rfl (lv_at hl 0 rfl) ?_
        refine lv_iload_n hx hb dX6_best_31 rfl (lv_at hl 1 rfl) ?_
        refine lv_iload_n hx hb dX6_best_32 rfl (lv_at hl 2 rfl) ?_
        refine oh_mVv (As := [.int v_a, .int v_b]) (rest := []) (wr := [(a0_refusals, .inl (E 0, 5, .inl (fun _ => 0)))]) ⟨hx, hb, hml, hown, htg⟩ (c_X6_findBest l D E G s.heap.size a0 v_a v_b a0_now a0_kept a0_ways a0_shelves a0_tape a0_reader a0_refusals a0_bestPack a0_now_counts a0_now_roads a0_now_bridges a0_now_waggons a0_now_parts a0_now_settings a0_now_trip) (cwV 2 htg (oh_gV q_821 q_823 q_22 q_66 q_824) rfl rfl rfl pdVX6_findBest ⟨Nat.le_of_ble_eq_true rfl, Nat.le_of_ble_eq_true rfl⟩) hK hP hD hG hS hA [0, 1, 2, 3] [4] rfl rfl (by decide) (by decide) (by decide) (va_recv hK hP (ci := 6) (q0 := 0) rfl rfl) rfl hl.1 rfl (Nat.le_of_ble_eq_true rfl) dX6_best_33 ⟨Nat.le_of_ble_eq_true rfl, Nat.le_of_ble_eq_true rfl⟩ (fun u H locs hw hP hD hS => ?_)
        have hP : va_P D vwCl [(a0_refusals, .inl (E 0, 5, .inl (fun _ => 0))), (a0, .inr (6, [.ref a0_now, .ref a0_kept, .int 0, .ref a0_ways, .ref a0_shelves, .ref a0_tape, .ref a0_reader, .ref a0_refusals, .ref a0_bestPack])), (a0_now, .inr (0, [.ref a0_now_counts, .ref a0_now_roads, .ref a0_now_bridges, .ref a0_now_waggons, .ref a0_now_parts, .ref a0_now_settings, .ref a0_now_trip, .int 0])), (a0_now_counts, .inl (E 0, 4, .inl (fun _ => 0))), (a0_bestPack, .inl (E 0, 3, .inl (upd (fun _ => 0) 2 1000000000)))] H := hP
        have hD : va_D A [(a0_refusals, .inl (E 0, 5, .inl (fun _ => 0))), (a0, .inr (6, [.ref a0_now, .ref a0_kept, .int 0, .ref a0_ways, .ref a0_shelves, .ref a0_tape, .ref a0_reader, .ref a0_refusals, .ref a0_bestPack])), (a0_now, .inr (0, [.ref a0_now_counts, .ref a0_now_roads, .ref a0_now_bridges, .ref a0_now_waggons, .ref a0_now_parts, .ref a0_now_settings, .ref a0_now_trip, .int 0])), (a0_now_counts, .inl (E 0, 4, .inl (fun _ => 0))), (a0_bestPack, .inl (E 0, 3, .inl (upd (fun _ => 0) 2 1000000000)))] := hD
        refine W.widen (k := 0) (n := 0) (Nat.le_refl _) (Nat.le_refl _) ?_
        refine lv_aload_n hx hb dX6_best_36 rfl (lv_at hl 0 rfl) ?_
        refine va_get (D := D) (ci := 6) (v := .ref a0_bestPack) (C := RX6) (T := TX6) (N := 9) hx hb htg ig_6 hown hK hP 1 rfl rfl 8 (by decide) (htg _ q_266) (fun _ h9 => h9) rfl dX6_best_37 ?_
        refine lv_iconst (v := 2) hx hb dX6_best_40 (by decide) ?_
        refine va_iald hx hb hK hP 4 0 rfl rfl (show vp_in 2 3 by unfold vp_in; decide) dX6_best_41 ?_
        refine oh_nrm (v := 1000000000) (by decide) ?_
        refine lv_ldc (v := 1000000000) hx hb hown (htg _ q_803) dX6_best_42 ?_
        refine lv_icmp_ne (tgt := 56) hx hb dX6_best_44 (by decide) (fun c => absurd (show (1000000000 : Int32) = 1000000000 from by decide) c) (fun _ => ?_)
        refine lv_aload_n hx hb dX6_best_47 rfl (lv_at hl 0 rfl) ?_
        refine lv_bipush (v := (-5)) hx hb dX6_best_48 (by decide) ?_
        refine oh_mV (As := [.int (-5)]) (rest := []) (wr := [(a0_now, .inr (0, [.ref a0_now_counts, .ref a0_now_roads, .ref a0_now_bridges, .ref a0_now_waggons, .ref a0_now_parts, .ref a0_now_settings, .ref a0_now_trip, .int 0])), (a0_now_counts, .inl (E 0, 4, .inl (fun _ => 0))), (a0_bestPack, .inl (E 0, 3, .inl (upd (fun _ => 0) 2 1000000000)))]) ⟨hx, hb, hml, hown, htg⟩ (c_X6_refuse l D E G H.size a0 (-5) a0_now a0_kept a0_ways a0_shelves a0_tape a0_reader a0_refusals a0_bestPack) (cwV 1 htg (oh_gV q_296 q_298 q_0 q_66 q_299) rfl rfl rfl pdVX6_refuse ⟨Nat.le_of_ble_eq_true rfl, Nat.le_of_ble_eq_true rfl⟩) hK hP hD hG hS hA [1, 0] [2, 3, 4] rfl rfl (by decide) (by decide) (by decide) (va_recv hK hP (ci := 6) (q0 := 1) rfl rfl) rfl hl.1 rfl (Nat.le_of_ble_eq_true rfl) dX6_best_50 ⟨Nat.le_of_ble_eq_true rfl, Nat.le_of_ble_eq_true rfl⟩ (fun r_4 u H locs hw hP hD hS => ?_)
        subst hw
        have hP : va_P D vwCl [(a0_now, .inr (0, [.ref a0_now_counts, .ref a0_now_roads, .ref a0_now_bridges, .ref a0_now_waggons, .ref a0_now_parts, .ref a0_now_settings, .ref a0_now_trip, .int 0])), (a0_now_counts, .inl (E 0, 4, .inl (fun _ => 0))), (a0_bestPack, .inl (E 0, 3, .inl (upd (fun _ => 0) 2 1000000000))), (a0, .inr (6, [.ref a0_now, .ref a0_kept, .int 0, .ref a0_ways, .ref a0_shelves, .ref a0_tape, .ref a0_reader, .ref a0_refusals, .ref a0_bestPack]))] H := hP
        have hD : va_D A [(a0_now, .inr (0, [.ref a0_now_counts, .ref a0_now_roads, .ref a0_now_bridges, .ref a0_now_waggons, .ref a0_now_parts, .ref a0_now_settings, .ref a0_now_trip, .int 0])), (a0_now_counts, .inl (E 0, 4, .inl (fun _ => 0))), (a0_bestPack, .inl (E 0, 3, .inl (upd (fun _ => 0) 2 1000000000))), (a0, .inr (6, [.ref a0_now, .ref a0_kept, .int 0, .ref a0_ways, .ref a0_shelves, .ref a0_tape, .ref a0_reader, .ref a0_refusals, .ref a0_bestPack]))] := hD
        refine W.widen (k := 0) (n := 0) (Nat.le_refl _) (Nat.le_refl _) ?_
        refine lv_goto (tgt := 62) hx hb dX6_best_53 (by decide) ?_
        refine W.widen (k := 0) (n := 0) (Nat.le_of_ble_eq_true rfl) (Nat.le_of_ble_eq_true rfl) ?_
        exact W.iret (v := (-5)) hx hb hr (fun t ht hW => ⟨⟨(-5), (), rfl, by unfold fX6_best; rw [if_neg c_1, if_neg c_2, if_neg c_3], ⟨by rw [ht]; exact hP.sub [] rfl, hD.sub [] (by decide) rfl⟩⟩, hS.F ht⟩) hS.2.2 dX6_best_62
      · refine lv_aload_n hx hb dX6_best_23 rfl (lv_at hl 0 rfl) ?_
        refine lv_bipush (v := (-2)) hx hb dX6_best_24 (by decide) ?_
        refine oh_mV (As := [.int (-2)]) (rest := []) (wr := [(a0_now, .inr (0, [.ref a0_now_counts, .ref a0_now_roads, .ref a0_now_bridges, .ref a0_now_waggons, .ref a0_now_parts, .ref a0_now_settings, .ref a0_now_trip, .int 0])), (a0_now_counts, .inl (E 0, 4, .inl (fun _ => 0))), (a0_bestPack, .inl (E 0, 3, .inl (fun _ => 0)))]) ⟨hx, hb, hml, hown, htg⟩ (c_X6_refuse l D E G s.heap.size a0 (-2) a0_now a0_kept a0_ways a0_shelves a0_tape a0_reader a0_refusals a0_bestPack) (cwV 1 htg (oh_gV q_296 q_298 q_0 q_66 q_299) rfl rfl rfl pdVX6_refuse ⟨Nat.le_of_ble_eq_true rfl, Nat.le_of_ble_eq_true rfl⟩) hK hP hD hG hS hA [0, 4] [1, 2, 3] rfl rfl (by decide) (by decide) (by decide) (va_recv hK hP (ci := 6) (q0 := 0) rfl rfl) rfl hl.1 rfl (Nat.le_of_ble_eq_true rfl) dX6_best_26 ⟨Nat.le_of_ble_eq_true rfl, Nat.le_of_ble_eq_true rfl⟩ (fun r_5 u H locs hw hP hD hS => ?_)
        subst hw
        have hP : va_P D vwCl [(a0_now, .inr (0, [.ref a0_now_counts, .ref a0_now_roads, .ref a0_now_bridges, .ref a0_now_waggons, .ref a0_now_parts, .ref a0_now_settings, .ref a0_now_trip, .int 0])), (a0_now_counts, .inl (E 0, 4, .inl (fun _ => 0))), (a0_bestPack, .inl (E 0, 3, .inl (fun _ => 0))), (a0, .inr (6, [.ref a0_now, .ref a0_kept, .int 0, .ref a0_ways, .ref a0_shelves, .ref a0_tape, .ref a0_reader, .ref a0_refusals, .ref a0_bestPack]))] H := hP
        have hD : va_D A [(a0_now, .inr (0, [.ref a0_now_counts, .ref a0_now_roads, .ref a0_now_bridges, .ref a0_now_waggons, .ref a0_now_parts, .ref a0_now_settings, .ref a0_now_trip, .int 0])), (a0_now_counts, .inl (E 0, 4, .inl (fun _ => 0))), (a0_bestPack, .inl (E 0, 3, .inl (fun _ => 0))), (a0, .inr (6, [.ref a0_now, .ref a0_kept, .int 0, .ref a0_ways, .ref a0_shelves, .ref a0_tape, .ref a0_reader, .ref a0_refusals, .ref a0_bestPack]))] := hD
        refine W.widen (k := 0) (n := 0) (Nat.le_refl _) (Nat.le_refl _) ?_
        refine W.widen (k := 0) (n := 0) (Nat.le_of_ble_eq_true rfl) (Nat.le_of_ble_eq_true rfl) ?_
        exact W.iret (v := (-2)) hx hb hr (fun t ht hW => ⟨⟨(-2), (), rfl, by unfold fX6_best; rw [if_neg c_1, if_neg c_2, if_pos c_3], ⟨by rw [ht]; exact hP.sub [] rfl, hD.sub [] (by decide) rfl⟩⟩, hS.F ht⟩) hS.2.2 dX6_best_29
