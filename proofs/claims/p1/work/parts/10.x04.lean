set_option maxHeartbeats 4000000 in
set_option maxRecDepth 100000 in
theorem c_X6_step (l : Launch) (D : va_G) (E : Nat → ClassId) (G : Nat → Nat) (sz : Nat) (a0 : Nat) (a0_now : Nat) (a0_kept : Nat) (a0_ways : Nat) (a0_shelves : Nat) (a0_tape : Nat) (a0_reader : Nat) (a0_refusals : Nat) (a0_bestPack : Nat) (a0_now_counts : Nat) (a0_now_roads : Nat) (a0_now_bridges : Nat) (a0_now_waggons : Nat) (a0_now_parts : Nat) (a0_now_settings : Nat) (a0_now_trip : Nat) : Met l yX6_step (oh_w yX6_step cX6_step 3 (some .int)) ({ frames := 2, cells := 0, slots := 0, locals := 44 }) (oh_Pm D E G [.ref a0] [(a0, .inr (6, [.ref a0_now, .ref a0_kept, .int 0, .ref a0_ways, .ref a0_shelves, .ref a0_tape, .ref a0_reader, .ref a0_refusals, .ref a0_bestPack])), (a0_now, .inr (0, [.ref a0_now_counts, .ref a0_now_roads, .ref a0_now_bridges, .ref a0_now_waggons, .ref a0_now_parts, .ref a0_now_settings, .ref a0_now_trip, .int 0])), (a0_refusals, .inl (E 0, 5, .inl (fun _ => 0)))] sz) (va_Qi (fun r (_ : Unit) => r = (-5)) (oh_B D (va_A [(a0, .inr (6, [.ref a0_now, .ref a0_kept, .int 0, .ref a0_ways, .ref a0_shelves, .ref a0_tape, .ref a0_reader, .ref a0_refusals, .ref a0_bestPack])), (a0_now, .inr (0, [.ref a0_now_counts, .ref a0_now_roads, .ref a0_now_bridges, .ref a0_now_waggons, .ref a0_now_parts, .ref a0_now_settings, .ref a0_now_trip, .int 0])), (a0_refusals, .inl (E 0, 5, .inl (fun _ => 0)))] sz) (fun _ => [])) (va_A [(a0, .inr (6, [.ref a0_now, .ref a0_kept, .int 0, .ref a0_ways, .ref a0_shelves, .ref a0_tape, .ref a0_reader, .ref a0_refusals, .ref a0_bestPack])), (a0_now, .inr (0, [.ref a0_now_counts, .ref a0_now_roads, .ref a0_now_bridges, .ref a0_now_waggons, .ref a0_now_parts, .ref a0_now_settings, .ref a0_now_trip, .int 0])), (a0_refusals, .inl (E 0, 5, .inl (fun _ => 0)))] sz)) 0 0 (va_A [(a0, .inr (6, [.ref a0_now, .ref a0_kept, .int 0, .ref a0_ways, .ref a0_shelves, .ref a0_tape, .ref a0_reader, .ref a0_refusals, .ref a0_bestPack])), (a0_now, .inr (0, [.ref a0_now_counts, .ref a0_now_roads, .ref a0_now_bridges, .ref a0_now_waggons, .ref a0_now_parts, .ref a0_now_settings, .ref a0_now_trip, .int 0])), (a0_refusals, .inl (E 0, 5, .inl (fun _ => 0)))] sz) := by
  refine Met.ofW (cc := cX6_step) (maxL := 3) (ret := (some .int)) (by decide) rfl ?_
  intro p e s m args below meth c s₁ B hml hv
  obtain ⟨rfl, hsz, hP, hK, hD0, hG⟩ := hv
  have hx := B.exec
  have hb := B.bytes
  have hr := B.returns
  have hts := atoms_spec (ws := (oh_w yX6_step cX6_step 3 (some .int))) B.pre
  have htg : ∀ w ∈ oh_t, w.before _ s = true := fun w h => hts w (List.mem_cons_of_mem _ h)
  have hown : s.vm.findClass RX6 = some m.cls := findClass_of_methodNamed B.named
  have hlocks := B.notSynchronized
  subst hsz
  have hD := hD0.self (sz := s.heap.size)
  generalize hAe : va_A [(a0, .inr (6, [.ref a0_now, .ref a0_kept, .int 0, .ref a0_ways, .ref a0_shelves, .ref a0_tape, .ref a0_reader, .ref a0_refusals, .ref a0_bestPack])), (a0_now, .inr (0, [.ref a0_now_counts, .ref a0_now_roads, .ref a0_now_bridges, .ref a0_now_waggons, .ref a0_now_parts, .ref a0_now_settings, .ref a0_now_trip, .int 0])), (a0_refusals, .inl (E 0, 5, .inl (fun _ => 0)))] s.heap.size = A at hD hG ⊢
  have hA : ∀ q : Nat, s.heap.size ≤ q → A q := fun q h => by rw [← hAe]; exact Or.inr h
  have hS : va_S A s.heap s.heap [] := va_S.rf
  have hP : va_P D vwCl [(a0, .inr (6, [.ref a0_now, .ref a0_kept, .int 0, .ref a0_ways, .ref a0_shelves, .ref a0_tape, .ref a0_reader, .ref a0_refusals, .ref a0_bestPack])), (a0_now, .inr (0, [.ref a0_now_counts, .ref a0_now_roads, .ref a0_now_bridges, .ref a0_now_waggons, .ref a0_now_parts, .ref a0_now_settings, .ref a0_now_trip, .int 0])), (a0_refusals, .inl (E 0, 5, .inl (fun _ => 0)))] s.heap := hP
  have hl := lv_entry ([.ref a0]) (n := 3) (Nat.le_of_ble_eq_true rfl)
  rw [lg_entry_eq]
  generalize (lg_sl ([.ref a0]) ++ List.replicate (3 - (lg_sl ([.ref a0])).length) Slot.unset).toArray = ls at hl ⊢
  have hl : lv_has ls 3 [(0, .ref a0)] := hl
  refine lv_aload_n hx hb dX6_step_0 rfl (lv_at hl 0 rfl) ?_
  refine va_get (D := D) (ci := 6) (v := .ref a0_now) (C := RX6) (T := TX6) (N := 9) hx hb htg ig_6 hown hK hP 0 rfl rfl 0 (by decide) (htg _ q_258) (fun _ h9 => h9) rfl dX6_step_1 ?_
  refine va_get (D := D) (ci := 0) (v := .ref a0_now_trip) (C := RX0) (T := TX0) (N := 8) hx hb htg ig_0 hown hK hP 1 rfl rfl 6 (by decide) (htg _ q_112) (fun _ h9 => h9) rfl dX6_step_4 ?_
  refine lv_astore_n (lv' := [(1, .ref a0_now_trip), (0, .ref a0)]) hx hb dX6_step_7 rfl hl (by decide) rfl (fun ls hl => ?_)
  refine lv_aload_n hx hb dX6_step_8 rfl (lv_at hl 1 rfl) ?_
  refine va_get (D := D) (ci := 6) (v := .ref a0_now) (C := RX6) (T := TX6) (N := 9) hx hb htg ig_6 hown hK hP 0 rfl rfl 0 (by decide) (htg _ q_258) (fun _ h9 => h9) rfl dX6_step_9 ?_
  refine va_get (D := D) (ci := 0) (v := .int 0) (C := RX0) (T := TX0) (N := 8) hx hb htg ig_0 hown hK hP 1 rfl rfl 7 (by decide) (htg _ q_114) (fun _ h9 => h9) rfl dX6_step_12 ?_
  refine lv_if_eq (tgt := 27) hx hb dX6_step_15 (by decide) (fun _ => ?_) (fun c => absurd (show (0 : Int32) = 0 from by decide) c)
  refine lv_aload_n hx hb dX6_step_27 rfl (lv_at hl 1 rfl) ?_
  refine lv_bipush (v := (-5)) hx hb dX6_step_28 (by decide) ?_
  refine oh_mV (As := [.int (-5)]) (rest := []) (wr := [(a0_now, .inr (0, [.ref a0_now_counts, .ref a0_now_roads, .ref a0_now_bridges, .ref a0_now_waggons, .ref a0_now_parts, .ref a0_now_settings, .ref a0_now_trip, .int 0]))]) ⟨hx, hb, hml, hown, htg⟩ (c_X6_refuse l D E G s.heap.size a0 (-5) a0_now a0_kept a0_ways a0_shelves a0_tape a0_reader a0_refusals a0_bestPack) (cwV 1 htg (oh_gV q_296 q_298 q_0 q_66 q_299) rfl rfl rfl pdVX6_refuse ⟨Nat.le_of_ble_eq_true rfl, Nat.le_of_ble_eq_true rfl⟩) hK hP hD hG hS hA [0, 2] [1] rfl rfl (by decide) (by decide) (by decide) (va_recv hK hP (ci := 6) (q0 := 0) rfl rfl) rfl hl.1 rfl (Nat.le_of_ble_eq_true rfl) dX6_step_30 ⟨Nat.le_of_ble_eq_true rfl, Nat.le_of_ble_eq_true rfl⟩ (fun r_1 u H locs hw hP hD hS => ?_)
  subst hw
  have hP : va_P D vwCl [(a0_now, .inr (0, [.ref a0_now_counts, .ref a0_now_roads, .ref a0_now_bridges, .ref a0_now_waggons, .ref a0_now_parts, .ref a0_now_settings, .ref a0_now_trip, .int 0]))] H := hP
  have hD : va_D A [(a0_now, .inr (0, [.ref a0_now_counts, .ref a0_now_roads, .ref a0_now_bridges, .ref a0_now_waggons, .ref a0_now_parts, .ref a0_now_settings, .ref a0_now_trip, .int 0]))] := hD
  refine W.widen (k := 0) (n := 0) (Nat.le_refl _) (Nat.le_refl _) ?_
  refine W.widen (k := 0) (n := 0) (Nat.le_of_ble_eq_true rfl) (Nat.le_of_ble_eq_true rfl) ?_
  exact W.iret (v := (-5)) hx hb hr (fun t ht hW => ⟨⟨(-5), (), rfl, rfl, ⟨by rw [ht]; exact hP.sub [] rfl, hD.sub [] (by decide) rfl⟩⟩, hS.F ht⟩) hS.2.2 dX6_step_33
def fX6_under (v_a : Int32) : Int32 :=
  if (fX6_within v_a 0 4) = 0 then (-2) else (-5)
set_option maxHeartbeats 4000000 in
set_option maxRecDepth 100000 in
theorem c_X6_under (l : Launch) (D : va_G) (E : Nat → ClassId) (G : Nat → Nat) (sz : Nat) (a0 : Nat) (v_a : Int32) (a0_now : Nat) (a0_kept : Nat) (a0_ways : Nat) (a0_shelves : Nat) (a0_tape : Nat) (a0_reader : Nat) (a0_refusals : Nat) (a0_bestPack : Nat) (a0_now_counts : Nat) (a0_now_roads : Nat) (a0_now_bridges : Nat) (a0_now_waggons : Nat) (a0_now_parts : Nat) (a0_now_settings : Nat) (a0_now_trip : Nat) : Met l yX6_under (oh_w yX6_under cX6_under 2 (some .int)) ({ frames := 2, cells := 0, slots := 0, locals := 44 }) (oh_Pm D E G [.ref a0, .int v_a] [(a0, .inr (6, [.ref a0_now, .ref a0_kept, .int 0, .ref a0_ways, .ref a0_shelves, .ref a0_tape, .ref a0_reader, .ref a0_refusals, .ref a0_bestPack])), (a0_now, .inr (0, [.ref a0_now_counts, .ref a0_now_roads, .ref a0_now_bridges, .ref a0_now_waggons, .ref a0_now_parts, .ref a0_now_settings, .ref a0_now_trip, .int 0])), (a0_refusals, .inl (E 0, 5, .inl (fun _ => 0)))] sz) (va_Qi (fun r (_ : Unit) => r = fX6_under v_a) (oh_B D (va_A [(a0, .inr (6, [.ref a0_now, .ref a0_kept, .int 0, .ref a0_ways, .ref a0_shelves, .ref a0_tape, .ref a0_reader, .ref a0_refusals, .ref a0_bestPack])), (a0_now, .inr (0, [.ref a0_now_counts, .ref a0_now_roads, .ref a0_now_bridges, .ref a0_now_waggons, .ref a0_now_parts, .ref a0_now_settings, .ref a0_now_trip, .int 0])), (a0_refusals, .inl (E 0, 5, .inl (fun _ => 0)))] sz) (fun _ => [])) (va_A [(a0, .inr (6, [.ref a0_now, .ref a0_kept, .int 0, .ref a0_ways, .ref a0_shelves, .ref a0_tape, .ref a0_reader, .ref a0_refusals, .ref a0_bestPack])), (a0_now, .inr (0, [.ref a0_now_counts, .ref a0_now_roads, .ref a0_now_bridges, .ref a0_now_waggons, .ref a0_now_parts, .ref a0_now_settings, .ref a0_now_trip, .int 0])), (a0_refusals, .inl (E 0, 5, .inl (fun _ => 0)))] sz)) 0 0 (va_A [(a0, .inr (6, [.ref a0_now, .ref a0_kept, .int 0, .ref a0_ways, .ref a0_shelves, .ref a0_tape, .ref a0_reader, .ref a0_refusals, .ref a0_bestPack])), (a0_now, .inr (0, [.ref a0_now_counts, .ref a0_now_roads, .ref a0_now_bridges, .ref a0_now_waggons, .ref a0_now_parts, .ref a0_now_settings, .ref a0_now_trip, .int 0])), (a0_refusals, .inl (E 0, 5, .inl (fun _ => 0)))] sz) := by
  refine Met.ofW (cc := cX6_under) (maxL := 2) (ret := (some .int)) (by decide) rfl ?_
  intro p e s m args below meth c s₁ B hml hv
  obtain ⟨rfl, hsz, hP, hK, hD0, hG⟩ := hv
  have hx := B.exec
  have hb := B.bytes
  have hr := B.returns
  have hts := atoms_spec (ws := (oh_w yX6_under cX6_under 2 (some .int))) B.pre
  have htg : ∀ w ∈ oh_t, w.before _ s = true := fun w h => hts w (List.mem_cons_of_mem _ h)
  have hown : s.vm.findClass RX6 = some m.cls := findClass_of_methodNamed B.named
  have hlocks := B.notSynchronized
  subst hsz
  have hD := hD0.self (sz := s.heap.size)
  generalize hAe : va_A [(a0, .inr (6, [.ref a0_now, .ref a0_kept, .int 0, .ref a0_ways, .ref a0_shelves, .ref a0_tape, .ref a0_reader, .ref a0_refusals, .ref a0_bestPack])), (a0_now, .inr (0, [.ref a0_now_counts, .ref a0_now_roads, .ref a0_now_bridges, .ref a0_now_waggons, .ref a0_now_parts, .ref a0_now_settings, .ref a0_now_trip, .int 0])), (a0_refusals, .inl (E 0, 5, .inl (fun _ => 0)))] s.heap.size = A at hD hG ⊢
  have hA : ∀ q : Nat, s.heap.size ≤ q → A q := fun q h => by rw [← hAe]; exact Or.inr h
  have hS : va_S A s.heap s.heap [] := va_S.rf
  have hP : va_P D vwCl [(a0, .inr (6, [.ref a0_now, .ref a0_kept, .int 0, .ref a0_ways, .ref a0_shelves, .ref a0_tape, .ref a0_reader, .ref a0_refusals, .ref a0_bestPack])), (a0_now, .inr (0, [.ref a0_now_counts, .ref a0_now_roads, .ref a0_now_bridges, .ref a0_now_waggons, .ref a0_now_parts, .ref a0_now_settings, .ref a0_now_trip, .int 0])), (a0_refusals, .inl (E 0, 5, .inl (fun _ => 0)))] s.heap := hP
  have hl := lv_entry ([.ref a0, .int v_a]) (n := 2) (Nat.le_of_ble_eq_true rfl)
  rw [lg_entry_eq]
  generalize (lg_sl ([.ref a0, .int v_a]) ++ List.replicate (2 - (lg_sl ([.ref a0, .int v_a])).length) Slot.unset).toArray = ls at hl ⊢
  have hl : lv_has ls 2 [(0, .ref a0), (1, .int v_a)] := hl
  refine lv_iload_n hx hb dX6_under_0 rfl (lv_at hl 1 rfl) ?_
  refine lv_iconst (v := 0) hx hb dX6_under_1 (by decide) ?_
  refine lv_iconst (v := 4) hx hb dX6_under_2 (by decide) ?_
  refine oh_pS (As := [.int v_a, .int 0, .int 4]) (rest := []) (v := fX6_within v_a 0 4) ⟨hx, hb, hml, hown, htg⟩ (c_X6_within l D E G v_a 0 4) (va_cwS 3 htg (oh_gS q_293 q_294 q_66 q_295) rfl rfl rfl pdX6_within ⟨Nat.le_of_ble_eq_true rfl, Nat.le_of_ble_eq_true rfl⟩) hK (hP.sub (ws' := []) [] rfl) hG hS rfl hl.1 rfl (Nat.le_of_ble_eq_true rfl) dX6_under_3 ⟨Nat.le_of_ble_eq_true rfl, Nat.le_of_ble_eq_true rfl⟩ ?_
  refine lv_if_ne (tgt := 16) hx hb dX6_under_6 (by decide) (fun (c_1 : ¬ ((fX6_within v_a 0 4) = 0)) => ?_) (fun (c_1 : (fX6_within v_a 0 4) = 0) => ?_)
  · refine lv_aload_n hx hb dX6_under_16 rfl (lv_at hl 0 rfl) ?_
    refine va_get (D := D) (ci := 6) (v := .ref a0_now) (C := RX6) (T := TX6) (N := 9) hx hb htg ig_6 hown hK hP 0 rfl rfl 0 (by decide) (htg _ q_258) (fun _ h9 => h9) rfl dX6_under_17 ?_
    refine va_get (D := D) (ci := 0) (v := .int 0) (C := RX0) (T := TX0) (N := 8) hx hb htg ig_0 hown hK hP 1 rfl rfl 7 (by decide) (htg _ q_114) (fun _ h9 => h9) rfl dX6_under_20 ?_
    refine lv_if_eq (tgt := 38) hx hb dX6_under_23 (by decide) (fun _ => ?_) (fun c => absurd (show (0 : Int32) = 0 from by decide) c)
    refine lv_aload_n hx hb dX6_under_38 rfl (lv_at hl 0 rfl) ?_
    refine lv_bipush (v := (-5)) hx hb dX6_under_39 (by decide) ?_
    refine oh_mV (As := [.int (-5)]) (rest := []) (wr := [(a0_now, .inr (0, [.ref a0_now_counts, .ref a0_now_roads, .ref a0_now_bridges, .ref a0_now_waggons, .ref a0_now_parts, .ref a0_now_settings, .ref a0_now_trip, .int 0]))]) ⟨hx, hb, hml, hown, htg⟩ (c_X6_refuse l D E G s.heap.size a0 (-5) a0_now a0_kept a0_ways a0_shelves a0_tape a0_reader a0_refusals a0_bestPack) (cwV 1 htg (oh_gV q_296 q_298 q_0 q_66 q_299) rfl rfl rfl pdVX6_refuse ⟨Nat.le_of_ble_eq_true rfl, Nat.le_of_ble_eq_true rfl⟩) hK hP hD hG hS hA [0, 2] [1] rfl rfl (by decide) (by decide) (by decide) (va_recv hK hP (ci := 6) (q0 := 0) rfl rfl) rfl hl.1 rfl (Nat.le_of_ble_eq_true rfl) dX6_under_41 ⟨Nat.le_of_ble_eq_true rfl, Nat.le_of_ble_eq_true rfl⟩ (fun r_1 u H locs hw hP hD hS => ?_)
    subst hw
    have hP : va_P D vwCl [(a0_now, .inr (0, [.ref a0_now_counts, .ref a0_now_roads, .ref a0_now_bridges, .ref a0_now_waggons, .ref a0_now_parts, .ref a0_now_settings, .ref a0_now_trip, .int 0]))] H := hP
    have hD : va_D A [(a0_now, .inr (0, [.ref a0_now_counts, .ref a0_now_roads, .ref a0_now_bridges, .ref a0_now_waggons, .ref a0_now_parts, .ref a0_now_settings, .ref a0_now_trip, .int 0]))] := hD
    refine W.widen (k := 0) (n := 0) (Nat.le_refl _) (Nat.le_refl _) ?_
    refine W.widen (k := 0) (n := 0) (Nat.le_of_ble_eq_true rfl) (Nat.le_of_ble_eq_true rfl) ?_
    exact W.iret (v := (-5)) hx hb hr (fun t ht hW => ⟨⟨(-5), (), rfl, by unfold fX6_under; rw [if_neg c_1], ⟨by rw [ht]; exact hP.sub [] rfl, hD.sub [] (by decide) rfl⟩⟩, hS.F ht⟩) hS.2.2 dX6_under_44
  · refine lv_aload_n hx hb dX6_under_9 rfl (lv_at hl 0 rfl) ?_
    refine lv_bipush (v := (-2)) hx hb dX6_under_10 (by decide) ?_
    refine oh_mV (As := [.int (-2)]) (rest := []) (wr := [(a0_now, .inr (0, [.ref a0_now_counts, .ref a0_now_roads, .ref a0_now_bridges, .ref a0_now_waggons, .ref a0_now_parts, .ref a0_now_settings, .ref a0_now_trip, .int 0]))]) ⟨hx, hb, hml, hown, htg⟩ (c_X6_refuse l D E G s.heap.size a0 (-2) a0_now a0_kept a0_ways a0_shelves a0_tape a0_reader a0_refusals a0_bestPack) (cwV 1 htg (oh_gV q_296 q_298 q_0 q_66 q_299) rfl rfl rfl pdVX6_refuse ⟨Nat.le_of_ble_eq_true rfl, Nat.le_of_ble_eq_true rfl⟩) hK hP hD hG hS hA [0, 2] [1] rfl rfl (by decide) (by decide) (by decide) (va_recv hK hP (ci := 6) (q0 := 0) rfl rfl) rfl hl.1 rfl (Nat.le_of_ble_eq_true rfl) dX6_under_12 ⟨Nat.le_of_ble_eq_true rfl, Nat.le_of_ble_eq_true rfl⟩ (fun r_2 u H locs hw hP hD hS => ?_)
    subst hw
    have hP : va_P D vwCl [(a0_now, .inr (0, [.ref a0_now_counts, .ref a0_now_roads, .ref a0_now_bridges, .ref a0_now_waggons, .ref a0_now_parts, .ref a0_now_settings, .ref a0_now_trip, .int 0]))] H := hP
    have hD : va_D A [(a0_now, .inr (0, [.ref a0_now_counts, .ref a0_now_roads, .ref a0_now_bridges, .ref a0_now_waggons, .ref a0_now_parts, .ref a0_now_settings, .ref a0_now_trip, .int 0]))] := hD
    refine W.widen (k := 0) (n := 0) (Nat.le_refl _) (Nat.le_refl _) ?_
    refine W.widen (k := 0) (n := 0) (Nat.le_of_ble_eq_true rfl) (Nat.le_of_ble_eq_true rfl) ?_
    exact W.iret (v := (-2)) hx hb hr (fun t ht hW => ⟨⟨(-2), (), rfl, by unfold fX6_under; rw [if_pos c_1], ⟨by rw [ht]; exact hP.sub [] rfl, hD.sub [] (by decide) rfl⟩⟩, hS.F ht⟩) hS.2.2 dX6_under_15
set_option maxHeartbeats 4000000 in
set_option maxRecDepth 100000 in
theorem c_X6_back (l : Launch) (D : va_G) (E : Nat → ClassId) (G : Nat → Nat) (sz : Nat) (a0 : Nat) (a0_now : Nat) (a0_kept : Nat) (a0_ways : Nat) (a0_shelves : Nat) (a0_tape : Nat) (a0_reader : Nat) (a0_refusals : Nat) (a0_bestPack : Nat) : Met l yX6_back (oh_w yX6_back cX6_back 1 (some .int)) ({ frames := 2, cells := 0, slots := 0, locals := 44 }) (oh_Pm D E G [.ref a0] [(a0, .inr (6, [.ref a0_now, .ref a0_kept, .int 0, .ref a0_ways, .ref a0_shelves, .ref a0_tape, .ref a0_reader, .ref a0_refusals, .ref a0_bestPack])), (a0_refusals, .inl (E 0, 5, .inl (fun _ => 0)))] sz) (va_Qi (fun r (_ : Unit) => r = (-5)) (oh_B D (va_A [(a0, .inr (6, [.ref a0_now, .ref a0_kept, .int 0, .ref a0_ways, .ref a0_shelves, .ref a0_tape, .ref a0_reader, .ref a0_refusals, .ref a0_bestPack])), (a0_refusals, .inl (E 0, 5, .inl (fun _ => 0)))] sz) (fun _ => [])) (va_A [(a0, .inr (6, [.ref a0_now, .ref a0_kept, .int 0, .ref a0_ways, .ref a0_shelves, .ref a0_tape, .ref a0_reader, .ref a0_refusals, .ref a0_bestPack])), (a0_refusals, .inl (E 0, 5, .inl (fun _ => 0)))] sz)) 0 0 (va_A [(a0, .inr (6, [.ref a0_now, .ref a0_kept, .int 0, .ref a0_ways, .ref a0_shelves, .ref a0_tape, .ref a0_reader, .ref a0_refusals, .ref a0_bestPack])), (a0_refusals, .inl (E 0, 5, .inl (fun _ => 0)))] sz) := by
  refine Met.ofW (cc := cX6_back) (maxL := 1) (ret := (some .int)) (by decide) rfl ?_
  intro p e s m args below meth c s₁ B hml hv
  obtain ⟨rfl, hsz, hP, hK, hD0, hG⟩ := hv
  have hx := B.exec
  have hb := B.bytes
  have hr := B.returns
  have hts := atoms_spec (ws := (oh_w yX6_back cX6_back 1 (some .int))) B.pre
  have htg : ∀ w ∈ oh_t, w.before _ s = true := fun w h => hts w (List.mem_cons_of_mem _ h)
  have hown : s.vm.findClass RX6 = some m.cls := findClass_of_methodNamed B.named
  have hlocks := B.notSynchronized
  subst hsz
  have hD := hD0.self (sz := s.heap.size)
  generalize hAe : va_A [(a0, .inr (6, [.ref a0_now, .ref a0_kept, .int 0, .ref a0_ways, .ref a0_shelves, .ref a0_tape, .ref a0_reader, .ref a0_refusals, .ref a0_bestPack])), (a0_refusals, .inl (E 0, 5, .inl (fun _ => 0)))] s.heap.size = A at hD hG ⊢
  have hA : ∀ q : Nat, s.heap.size ≤ q → A q := fun q h => by rw [← hAe]; exact Or.inr h
  have hS : va_S A s.heap s.heap [] := va_S.rf
  have hP : va_P D vwCl [(a0, .inr (6, [.ref a0_now, .ref a0_kept, .int 0, .ref a0_ways, .ref a0_shelves, .ref a0_tape, .ref a0_reader, .ref a0_refusals, .ref a0_bestPack])), (a0_refusals, .inl (E 0, 5, .inl (fun _ => 0)))] s.heap := hP
  have hl := lv_entry ([.ref a0]) (n := 1) (Nat.le_of_ble_eq_true rfl)
  rw [lg_entry_eq]
  generalize (lg_sl ([.ref a0]) ++ List.replicate (1 - (lg_sl ([.ref a0])).length) Slot.unset).toArray = ls at hl ⊢
  have hl : lv_has ls 1 [(0, .ref a0)] := hl
  refine lv_aload_n hx hb dX6_back_0 rfl (lv_at hl 0 rfl) ?_
  refine va_get (D := D) (ci := 6) (v := .int 0) (C := RX6) (T := TX6) (N := 9) hx hb htg ig_6 hown hK hP 0 rfl rfl 2 (by decide) (htg _ q_260) (fun _ h9 => h9) rfl dX6_back_1 ?_
  refine lv_if_ne (tgt := 14) hx hb dX6_back_4 (by decide) (fun c => absurd (show (0 : Int32) = 0 from by decide) c) (fun _ => ?_)
  refine lv_aload_n hx hb dX6_back_7 rfl (lv_at hl 0 rfl) ?_
  refine lv_bipush (v := (-5)) hx hb dX6_back_8 (by decide) ?_
  refine oh_mV (As := [.int (-5)]) (rest := []) (wr := []) ⟨hx, hb, hml, hown, htg⟩ (c_X6_refuse l D E G s.heap.size a0 (-5) a0_now a0_kept a0_ways a0_shelves a0_tape a0_reader a0_refusals a0_bestPack) (cwV 1 htg (oh_gV q_296 q_298 q_0 q_66 q_299) rfl rfl rfl pdVX6_refuse ⟨Nat.le_of_ble_eq_true rfl, Nat.le_of_ble_eq_true rfl⟩) hK hP hD hG hS hA [0, 1] [] rfl rfl (by decide) (by decide) (by decide) (va_recv hK hP (ci := 6) (q0 := 0) rfl rfl) rfl hl.1 rfl (Nat.le_of_ble_eq_true rfl) dX6_back_10 ⟨Nat.le_of_ble_eq_true rfl, Nat.le_of_ble_eq_true rfl⟩ (fun r_1 u H locs hw hP hD hS => ?_)
  subst hw
  have hP : va_P D vwCl [] H := hP
  have hD : va_D A [] := hD
  refine W.widen (k := 0) (n := 0) (Nat.le_refl _) (Nat.le_refl _) ?_
  refine W.widen (k := 0) (n := 0) (Nat.le_of_ble_eq_true rfl) (Nat.le_of_ble_eq_true rfl) ?_
  exact W.iret (v := (-5)) hx hb hr (fun t ht hW => ⟨⟨(-5), (), rfl, rfl, ⟨by rw [ht]; exact hP.sub [] rfl, hD.sub [] (by decide) rfl⟩⟩, hS.F ht⟩) hS.2.2 dX6_back_13
set_option maxHeartbeats 4000000 in
set_option maxRecDepth 100000 in
theorem c_X6_wipe (l : Launch) (D : va_G) (E : Nat → ClassId) (G : Nat → Nat) (sz : Nat) (a0 : Nat) (a0_now : Nat) (a0_kept : Nat) (a0_ways : Nat) (a0_shelves : Nat) (a0_tape : Nat) (a0_reader : Nat) (a0_refusals : Nat) (a0_bestPack : Nat) (a0_tape_bytes : Nat) : Met l yX6_wipe (oh_w yX6_wipe cX6_wipe 2 (some .int)) ({ frames := 0, cells := 0, slots := 0, locals := 0 }) (oh_Pm D E G [.ref a0] [(a0, .inr (6, [.ref a0_now, .ref a0_kept, .int 0, .ref a0_ways, .ref a0_shelves, .ref a0_tape, .ref a0_reader, .ref a0_refusals, .ref a0_bestPack])), (a0_tape, .inr (4, [.ref a0_tape_bytes, .int 0, .int (-1), .int 0, .int 0, .int 0]))] sz) (va_Qi (fun r (_ : Unit) => r = 0) (oh_B D (va_A [(a0, .inr (6, [.ref a0_now, .ref a0_kept, .int 0, .ref a0_ways, .ref a0_shelves, .ref a0_tape, .ref a0_reader, .ref a0_refusals, .ref a0_bestPack])), (a0_tape, .inr (4, [.ref a0_tape_bytes, .int 0, .int (-1), .int 0, .int 0, .int 0]))] sz) (fun _ => [])) (va_A [(a0, .inr (6, [.ref a0_now, .ref a0_kept, .int 0, .ref a0_ways, .ref a0_shelves, .ref a0_tape, .ref a0_reader, .ref a0_refusals, .ref a0_bestPack])), (a0_tape, .inr (4, [.ref a0_tape_bytes, .int 0, .int (-1), .int 0, .int 0, .int 0]))] sz)) 0 0 (va_A [(a0, .inr (6, [.ref a0_now, .ref a0_kept, .int 0, .ref a0_ways, .ref a0_shelves, .ref a0_tape, .ref a0_reader, .ref a0_refusals, .ref a0_bestPack])), (a0_tape, .inr (4, [.ref a0_tape_bytes, .int 0, .int (-1), .int 0, .int 0, .int 0]))] sz) := by
  refine Met.ofW (cc := cX6_wipe) (maxL := 2) (ret := (some .int)) (by decide) rfl ?_
  intro p e s m args below meth c s₁ B hml hv
  obtain ⟨rfl, hsz, hP, hK, hD0, hG⟩ := hv
  have hx := B.exec
  have hb := B.bytes
  have hr := B.returns
  have hts := atoms_spec (ws := (oh_w yX6_wipe cX6_wipe 2 (some .int))) B.pre
  have htg : ∀ w ∈ oh_t, w.before _ s = true := fun w h => hts w (List.mem_cons_of_mem _ h)
  have hown : s.vm.findClass RX6 = some m.cls := findClass_of_methodNamed B.named
  have hlocks := B.notSynchronized
  subst hsz
  have hD := hD0.self (sz := s.heap.size)
  generalize hAe : va_A [(a0, .inr (6, [.ref a0_now, .ref a0_kept, .int 0, .ref a0_ways, .ref a0_shelves, .ref a0_tape, .ref a0_reader, .ref a0_refusals, .ref a0_bestPack])), (a0_tape, .inr (4, [.ref a0_tape_bytes, .int 0, .int (-1), .int 0, .int 0, .int 0]))] s.heap.size = A at hD hG ⊢
  have hA : ∀ q : Nat, s.heap.size ≤ q → A q := fun q h => by rw [← hAe]; exact Or.inr h
  have hS : va_S A s.heap s.heap [] := va_S.rf
  have hP : va_P D vwCl [(a0, .inr (6, [.ref a0_now, .ref a0_kept, .int 0, .ref a0_ways, .ref a0_shelves, .ref a0_tape, .ref a0_reader, .ref a0_refusals, .ref a0_bestPack])), (a0_tape, .inr (4, [.ref a0_tape_bytes, .int 0, .int (-1), .int 0, .int 0, .int 0]))] s.heap := hP
  have hl := lv_entry ([.ref a0]) (n := 2) (Nat.le_of_ble_eq_true rfl)
  rw [lg_entry_eq]
  generalize (lg_sl ([.ref a0]) ++ List.replicate (2 - (lg_sl ([.ref a0])).length) Slot.unset).toArray = ls at hl ⊢
  have hl : lv_has ls 2 [(0, .ref a0)] := hl
  refine lv_aload_n hx hb dX6_wipe_0 rfl (lv_at hl 0 rfl) ?_
  refine va_get (D := D) (ci := 6) (v := .ref a0_tape) (C := RX6) (T := TX6) (N := 9) hx hb htg ig_6 hown hK hP 0 rfl rfl 5 (by decide) (htg _ q_263) (fun _ h9 => h9) rfl dX6_wipe_1 ?_
  refine va_get (D := D) (ci := 4) (v := .int 0) (C := RX4) (T := TX4) (N := 6) hx hb htg ig_4 hown hK hP 1 rfl rfl 1 (by decide) (htg _ q_219) (fun _ h9 => h9) rfl dX6_wipe_4 ?_
  refine lv_istore_n (lv' := [(1, .int 0), (0, .ref a0)]) hx hb dX6_wipe_7 rfl hl (by decide) rfl (fun ls hl => ?_)
  refine lv_aload_n hx hb dX6_wipe_8 rfl (lv_at hl 1 rfl) ?_
  refine va_get (D := D) (ci := 6) (v := .ref a0_tape) (C := RX6) (T := TX6) (N := 9) hx hb htg ig_6 hown hK hP 0 rfl rfl 5 (by decide) (htg _ q_263) (fun _ h9 => h9) rfl dX6_wipe_9 ?_
  refine lv_iconst (v := 0) hx hb dX6_wipe_12 (by decide) ?_
  refine va_put (D := D) (ci := 4) (v := .int 0) (ty := .int) (C := RX4) (T := TX4) (N := 6) hx hb htg ig_4 tyX4 tyX4_ok nmX4 hown hK hP hD hS 1 rfl rfl 1 (by decide) (htg _ q_219) (fun _ h9 => h9) rfl (by decide +kernel) rfl rfl (Nat.le_of_ble_eq_true rfl) dX6_wipe_13 (fun H locs hP hD hS => ?_)
  have hP : va_P D vwCl [(a0, .inr (6, [.ref a0_now, .ref a0_kept, .int 0, .ref a0_ways, .ref a0_shelves, .ref a0_tape, .ref a0_reader, .ref a0_refusals, .ref a0_bestPack])), (a0_tape, .inr (4, [.ref a0_tape_bytes, .int 0, .int (-1), .int 0, .int 0, .int 0]))] H := hP
  have hD : va_D A [(a0, .inr (6, [.ref a0_now, .ref a0_kept, .int 0, .ref a0_ways, .ref a0_shelves, .ref a0_tape, .ref a0_reader, .ref a0_refusals, .ref a0_bestPack])), (a0_tape, .inr (4, [.ref a0_tape_bytes, .int 0, .int (-1), .int 0, .int 0, .int 0]))] := hD
  refine lv_iload_n hx hb dX6_wipe_16 rfl (lv_at hl 0 rfl) ?_
  refine W.widen (k := 0) (n := 0) (Nat.le_of_ble_eq_true rfl) (Nat.le_of_ble_eq_true rfl) ?_
  exact W.iret (v := 0) hx hb hr (fun t ht hW => ⟨⟨0, (), rfl, rfl, ⟨by rw [ht]; exact hP.sub [] rfl, hD.sub [] (by decide) rfl⟩⟩, hS.F ht⟩) hS.2.2 dX6_wipe_17
def fX6_ask (v_a : Int32) (v_b : Int32) : Int32 :=
  if (fX6_within v_a 0 2) = 0 then (-2) else if (fX6_within v_b 0 (oh_maxs (v_a).toNatClampNeg)) = 0 then (-2) else (upd (upd (fun _ => 0) 0 100) 1 2) (v_a).toNatClampNeg
set_option maxHeartbeats 4000000 in
set_option maxRecDepth 100000 in
theorem c_X6_ask (l : Launch) (D : va_G) (E : Nat → ClassId) (G : Nat → Nat) (sz : Nat) (a0 : Nat) (v_a : Int32) (v_b : Int32) (a0_now : Nat) (a0_kept : Nat) (a0_ways : Nat) (a0_shelves : Nat) (a0_tape : Nat) (a0_reader : Nat) (a0_refusals : Nat) (a0_bestPack : Nat) (a0_now_counts : Nat) (a0_now_roads : Nat) (a0_now_bridges : Nat) (a0_now_waggons : Nat) (a0_now_parts : Nat) (a0_now_settings : Nat) (a0_now_trip : Nat) : Met l yX6_ask (oh_w yX6_ask cX6_ask 4 (some .int)) ({ frames := 2, cells := 0, slots := 0, locals := 44 }) (oh_Pm D E G [.ref a0, .int v_a, .int v_b] [(a0, .inr (6, [.ref a0_now, .ref a0_kept, .int 0, .ref a0_ways, .ref a0_shelves, .ref a0_tape, .ref a0_reader, .ref a0_refusals, .ref a0_bestPack])), (a0_now, .inr (0, [.ref a0_now_counts, .ref a0_now_roads, .ref a0_now_bridges, .ref a0_now_waggons, .ref a0_now_parts, .ref a0_now_settings, .ref a0_now_trip, .int 0])), (a0_now_settings, .inl (E 0, 3, .inl (upd (upd (fun _ => 0) 0 100) 1 2))), (a0_refusals, .inl (E 0, 5, .inl (fun _ => 0)))] sz) (va_Qi (fun r (_ : Unit) => r = fX6_ask v_a v_b) (oh_B D (va_A [(a0, .inr (6, [.ref a0_now, .ref a0_kept, .int 0, .ref a0_ways, .ref a0_shelves, .ref a0_tape, .ref a0_reader, .ref a0_refusals, .ref a0_bestPack])), (a0_now, .inr (0, [.ref a0_now_counts, .ref a0_now_roads, .ref a0_now_bridges, .ref a0_now_waggons, .ref a0_now_parts, .ref a0_now_settings, .ref a0_now_trip, .int 0])), (a0_now_settings, .inl (E 0, 3, .inl (upd (upd (fun _ => 0) 0 100) 1 2))), (a0_refusals, .inl (E 0, 5, .inl (fun _ => 0)))] sz) (fun _ => [])) (va_A [(a0, .inr (6, [.ref a0_now, .ref a0_kept, .int 0, .ref a0_ways, .ref a0_shelves, .ref a0_tape, .ref a0_reader, .ref a0_refusals, .ref a0_bestPack])), (a0_now, .inr (0, [.ref a0_now_counts, .ref a0_now_roads, .ref a0_now_bridges, .ref a0_now_waggons, .ref a0_now_parts, .ref a0_now_settings, .ref a0_now_trip, .int 0])), (a0_now_settings, .inl (E 0, 3, .inl (upd (upd (fun _ => 0) 0 100) 1 2))), (a0_refusals, .inl (E 0, 5, .inl (fun _ => 0)))] sz)) 0 0 (va_A [(a0, .inr (6, [.ref a0_now, .ref a0_kept, .int 0, .ref a0_ways, .ref a0_shelves, .ref a0_tape, .ref a0_reader, .ref a0_refusals, .ref a0_bestPack])), (a0_now, .inr (0, [.ref a0_now_counts, .ref a0_now_roads, .ref a0_now_bridges, .ref a0_now_waggons, .ref a0_now_parts, .ref a0_now_settings, .ref a0_now_trip, .int 0])), (a0_now_settings, .inl (E 0, 3, .inl (upd (upd (fun _ => 0) 0 100) 1 2))), (a0_refusals, .inl (E 0, 5, .inl (fun _ => 0)))] sz) := by
  refine Met.ofW (cc := cX6_ask) (maxL := 4) (ret := (some .int)) (by decide) rfl ?_
  intro p e s m args below meth c s₁ B hml hv
  obtain ⟨rfl, hsz, hP, hK, hD0, hG⟩ := hv
  have hx := B.exec
  have hb := B.bytes
  have hr := B.returns
  have hts := atoms_spec (ws := (oh_w yX6_ask cX6_ask 4 (some .int))) B.pre
  have htg : ∀ w ∈ oh_t, w.before _ s = true := fun w h => hts w (List.mem_cons_of_mem _ h)
  have hown : s.vm.findClass RX6 = some m.cls := findClass_of_methodNamed B.named
  have hlocks := B.notSynchronized
  subst hsz
  have hD := hD0.self (sz := s.heap.size)
  generalize hAe : va_A [(a0, .inr (6, [.ref a0_now, .ref a0_kept, .int 0, .ref a0_ways, .ref a0_shelves, .ref a0_tape, .ref a0_reader, .ref a0_refusals, .ref a0_bestPack])), (a0_now, .inr (0, [.ref a0_now_counts, .ref a0_now_roads, .ref a0_now_bridges, .ref a0_now_waggons, .ref a0_now_parts, .ref a0_now_settings, .ref a0_now_trip, .int 0])), (a0_now_settings, .inl (E 0, 3, .inl (upd (upd (fun _ => 0) 0 100) 1 2))), (a0_refusals, .inl (E 0, 5, .inl (fun _ => 0)))] s.heap.size = A at hD hG ⊢
  have hA : ∀ q : Nat, s.heap.size ≤ q → A q := fun q h => by rw [← hAe]; exact Or.inr h
  have hS : va_S A s.heap s.heap [] := va_S.rf
  have hP : va_P D vwCl [(a0, .inr (6, [.ref a0_now, .ref a0_kept, .int 0, .ref a0_ways, .ref a0_shelves, .ref a0_tape, .ref a0_reader, .ref a0_refusals, .ref a0_bestPack])), (a0_now, .inr (0, [.ref a0_now_counts, .ref a0_now_roads, .ref a0_now_bridges, .ref a0_now_waggons, .ref a0_now_parts, .ref a0_now_settings, .ref a0_now_trip, .int 0])), (a0_now_settings, .inl (E 0, 3, .inl (upd (upd (fun _ => 0) 0 100) 1 2))), (a0_refusals, .inl (E 0, 5, .inl (fun _ => 0)))] s.heap := hP
  have hl := lv_entry ([.ref a0, .int v_a, .int v_b]) (n := 4) (Nat.le_of_ble_eq_true rfl)
  rw [lg_entry_eq]
  generalize (lg_sl ([.ref a0, .int v_a, .int v_b]) ++ List.replicate (4 - (lg_sl ([.ref a0, .int v_a, .int v_b])).length) Slot.unset).toArray = ls at hl ⊢
  have hl : lv_has ls 4 [(0, .ref a0), (1, .int v_a), (2, .int v_b)] := hl
  refine lv_iload_n hx hb dX6_ask_0 rfl (lv_at hl 1 rfl) ?_
  refine lv_iconst (v := 0) hx hb dX6_ask_1 (by decide) ?_
  refine lv_iconst (v := 2) hx hb dX6_ask_2 (by decide) ?_
  refine oh_pS (As := [.int v_a, .int 0, .int 2]) (rest := []) (v := fX6_within v_a 0 2) ⟨hx, hb, hml, hown, htg⟩ (c_X6_within l D E G v_a 0 2) (va_cwS 3 htg (oh_gS q_293 q_294 q_66 q_295) rfl rfl rfl pdX6_within ⟨Nat.le_of_ble_eq_true rfl, Nat.le_of_ble_eq_true rfl⟩) hK (hP.sub (ws' := []) [] rfl) hG hS rfl hl.1 rfl (Nat.le_of_ble_eq_true rfl) dX6_ask_3 ⟨Nat.le_of_ble_eq_true rfl, Nat.le_of_ble_eq_true rfl⟩ ?_
  refine lv_if_eq (tgt := 22) hx hb dX6_ask_6 (by decide) (fun (c_1 : (fX6_within v_a 0 2) = 0) => ?_) (fun (c_1 : ¬ ((fX6_within v_a 0 2) = 0)) => ?_)
  · refine lv_aload_n hx hb dX6_ask_22 rfl (lv_at hl 0 rfl) ?_
    refine lv_bipush (v := (-2)) hx hb dX6_ask_23 (by decide) ?_
    refine oh_mV (As := [.int (-2)]) (rest := []) (wr := [(a0_now, .inr (0, [.ref a0_now_counts, .ref a0_now_roads, .ref a0_now_bridges, .ref a0_now_waggons, .ref a0_now_parts, .ref a0_now_settings, .ref a0_now_trip, .int 0])), (a0_now_settings, .inl (E 0, 3, .inl (upd (upd (fun _ => 0) 0 100) 1 2)))]) ⟨hx, hb, hml, hown, htg⟩ (c_X6_refuse l D E G s.heap.size a0 (-2) a0_now a0_kept a0_ways a0_shelves a0_tape a0_reader a0_refusals a0_bestPack) (cwV 1 htg (oh_gV q_296 q_298 q_0 q_66 q_299) rfl rfl rfl pdVX6_refuse ⟨Nat.le_of_ble_eq_true rfl, Nat.le_of_ble_eq_true rfl⟩) hK hP hD hG hS hA [0, 3] [1, 2] rfl rfl (by decide) (by decide) (by decide) (va_recv hK hP (ci := 6) (q0 := 0) rfl rfl) rfl hl.1 rfl (Nat.le_of_ble_eq_true rfl) dX6_ask_25 ⟨Nat.le_of_ble_eq_true rfl, Nat.le_of_ble_eq_true rfl⟩ (fun r_1 u H locs hw hP hD hS => ?_)
    subst hw
    have hP : va_P D vwCl [(a0_now, .inr (0, [.ref a0_now_counts, .ref a0_now_roads, .ref a0_now_bridges, .ref a0_now_waggons, .ref a0_now_parts, .ref a0_now_settings, .ref a0_now_trip, .int 0])), (a0_now_settings, .inl (E 0, 3, .inl (upd (upd (fun _ => 0) 0 100) 1 2)))] H := hP
    have hD : va_D A [(a0_now, .inr (0, [.ref a0_now_counts, .ref a0_now_roads, .ref a0_now_bridges, .ref a0_now_waggons, .ref a0_now_parts, .ref a0_now_settings, .ref a0_now_trip, .int 0])), (a0_now_settings, .inl (E 0, 3, .inl (upd (upd (fun _ => 0) 0 100) 1 2)))] := hD
    refine W.widen (k := 0) (n := 0) (Nat.le_refl _) (Nat.le_refl _) ?_
    refine W.widen (k := 0) (n := 0) (Nat.le_of_ble_eq_true rfl) (Nat.le_of_ble_eq_true rfl) ?_
    exact W.iret (v := (-2)) hx hb hr (fun t ht hW => ⟨⟨(-2), (), rfl, by unfold fX6_ask; rw [if_pos c_1], ⟨by rw [ht]; exact hP.sub [] rfl, hD.sub [] (by decide) rfl⟩⟩, hS.F ht⟩) hS.2.2 dX6_ask_28
  · refine lv_iload_n hx hb dX6_ask_9 rfl (lv_at hl 2 rfl) ?_
    refine lv_iconst (v := 0) hx hb dX6_ask_10 (by decide) ?_
    refine va_gets hx hb hG.2.2.2.2.1.1 hS hown (htg _ q_468) (fun _ h9 => h9) dX6_ask_11 ?_
    refine lv_iload_n hx hb dX6_ask_14 rfl (lv_at hl 1 rfl) ?_
    refine va_ti (v := .int (oh_maxs (v_a).toNatClampNeg)) hx hb hG.2.2.2.2.1.2 hS (oh_win c_1 (by decide)) rfl dX6_ask_15 ?_
    refine oh_pS (As := [.int v_b, .int 0, .int (oh_maxs (v_a).toNatClampNeg)]) (rest := []) (v := fX6_within v_b 0 (oh_maxs (v_a).toNatClampNeg)) ⟨hx, hb, hml, hown, htg⟩ (c_X6_within l D E G v_b 0 (oh_maxs (v_a).toNatClampNeg)) (va_cwS 3 htg (oh_gS q_293 q_294 q_66 q_295) rfl rfl rfl pdX6_within ⟨Nat.le_of_ble_eq_true rfl, Nat.le_of_ble_eq_true rfl⟩) hK (hP.sub (ws' := []) [] rfl) hG hS rfl hl.1 rfl (Nat.le_of_ble_eq_true rfl) dX6_ask_16 ⟨Nat.le_of_ble_eq_true rfl, Nat.le_of_ble_eq_true rfl⟩ ?_
    refine lv_if_ne (tgt := 29) hx hb dX6_ask_19 (by decide) (fun (c_2 : ¬ ((fX6_within v_b 0 (oh_maxs (v_a).toNatClampNeg)) = 0)) => ?_) (fun (c_2 : (fX6_within v_b 0 (oh_maxs (v_a).toNatClampNeg)) = 0) => ?_)
    · refine lv_aload_n hx hb dX6_ask_29 rfl (lv_at hl 0 rfl) ?_
      refine va_get (D := D) (ci := 6) (v := .ref a0_now) (C := RX6) (T := TX6) (N := 9) hx hb htg ig_6 hown hK hP 0 rfl rfl 0 (by decide) (htg _ q_258) (fun _ h9 => h9) rfl dX6_ask_30 ?_
      refine va_get (D := D) (ci := 0) (v := .ref a0_now_settings) (C := RX0) (T := TX0) (N := 8) hx hb htg ig_0 hown hK hP 1 rfl rfl 5 (by decide) (htg _ q_110) (fun _ h9 => h9) rfl dX6_ask_33 ?_
      refine lv_iload_n hx hb dX6_ask_36 rfl (lv_at hl 1 rfl) ?_
      refine va_iald hx hb hK hP 2 0 rfl rfl (oh_win c_1 (by decide)) dX6_ask_37 ?_
      refine lv_istore_n (lv' := [(3, .int ((upd (upd (fun _ => 0) 0 100) 1 2) (v_a).toNatClampNeg)), (0, .ref a0), (1, .int v_a), (2, .int v_b)]) hx hb dX6_ask_38 rfl hl (by decide) rfl (fun ls hl => ?_)
      refine lv_aload_n hx hb dX6_ask_39 rfl (lv_at hl 1 rfl) ?_
      refine va_get (D := D) (ci := 6) (v := .ref a0_now) (C := RX6) (T := TX6) (N := 9) hx hb htg ig_6 hown hK hP 0 rfl rfl 0 (by decide) (htg _ q_258) (fun _ h9 => h9) rfl dX6_ask_40 ?_
      refine va_get (D := D) (ci := 0) (v := .ref a0_now_settings) (C := RX0) (T := TX0) (N := 8) hx hb htg ig_0 hown hK hP 1 rfl rfl 5 (by decide) (htg _ q_110) (fun _ h9 => h9) rfl dX6_ask_43 ?_
      refine lv_iload_n hx hb dX6_ask_46 rfl (lv_at hl 2 rfl) ?_
      refine lv_iload_n hx hb dX6_ask_47 rfl (lv_at hl 3 rfl) ?_
      refine va_iast hx hb hK hP hD hS 2 0 rfl rfl (oh_win c_1 (by decide)) dX6_ask_48 (fun H locs hP hD hS => ?_)
      have hP : va_P D vwCl [(a0, .inr (6, [.ref a0_now, .ref a0_kept, .int 0, .ref a0_ways, .ref a0_shelves, .ref a0_tape, .ref a0_reader, .ref a0_refusals, .ref a0_bestPack])), (a0_now, .inr (0, [.ref a0_now_counts, .ref a0_now_roads, .ref a0_now_bridges, .ref a0_now_waggons, .ref a0_now_parts, .ref a0_now_settings, .ref a0_now_trip, .int 0])), (a0_now_settings, .inl (E 0, 3, .inl (upd (upd (upd (fun _ => 0) 0 100) 1 2) ((v_a).toNatClampNeg) v_b))), (a0_refusals, .inl (E 0, 5, .inl (fun _ => 0)))] H := hP
      have hD : va_D A [(a0, .inr (6, [.ref a0_now, .ref a0_kept, .int 0, .ref a0_ways, .ref a0_shelves, .ref a0_tape, .ref a0_reader, .ref a0_refusals, .ref a0_bestPack])), (a0_now, .inr (0, [.ref a0_now_counts, .ref a0_now_roads, .ref a0_now_bridges, .ref a0_now_waggons, .ref a0_now_parts, .ref a0_now_settings, .ref a0_now_trip, .int 0])), (a0_now_settings, .inl (E 0, 3, .inl (upd (upd (upd (fun _ => 0) 0 100) 1 2) ((v_a).toNatClampNeg) v_b))), (a0_refusals, .inl (E 0, 5, .inl (fun _ => 0)))] := hD
      refine lv_iload_n hx hb dX6_ask_49 rfl (lv_at hl 0 rfl) ?_
      refine W.widen (k := 0) (n := 0) (Nat.le_of_ble_eq_true rfl) (Nat.le_of_ble_eq_true rfl) ?_
      exact W.iret (v := (upd (upd (fun _ => 0) 0 100) 1 2) (v_a).toNatClampNeg) hx hb hr (fun t ht hW => ⟨⟨(upd (upd (fun _ => 0) 0 100) 1 2) (v_a).toNatClampNeg, (), rfl, by unfold fX6_ask; rw [if_neg c_1, if_neg c_2], ⟨by rw [ht]; exact hP.sub [] rfl, hD.sub [] (by decide) rfl⟩⟩, hS.F ht⟩) hS.2.2 dX6_ask_50
    · refine lv_aload_n hx hb dX6_ask_22 rfl (lv_at hl 0 rfl) ?_
      refine lv_bipush (v := (-2)) hx hb dX6_ask_23 (by decide) ?_
      refine oh_mV (As := [.int (-2)]) (rest := []) (wr := [(a0_now, .inr (0, [.ref a0_now_counts, .ref a0_now_roads, .ref a0_now_bridges, .ref a0_now_waggons, .ref a0_now_parts, .ref a0_now_settings, .ref a0_now_trip, .int 0])), (a0_now_settings, .inl (E 0, 3, .inl (upd (upd (fun _ => 0) 0 100) 1 2)))]) ⟨hx, hb, hml, hown, htg⟩ (c_X6_refuse l D E G s.heap.size a0 (-2) a0_now a0_kept a0_ways a0_shelves a0_tape a0_reader a0_refusals a0_bestPack) (cwV 1 htg (oh_gV q_296 q_298 q_0 q_66 q_299) rfl rfl rfl pdVX6_refuse ⟨Nat.le_of_ble_eq_true rfl, Nat.le_of_ble_eq_true rfl⟩) hK hP hD hG hS hA [0, 3] [1, 2] rfl rfl (by decide) (by decide) (by decide) (va_recv hK hP (ci := 6) (q0 := 0) rfl rfl) rfl hl.1 rfl (Nat.le_of_ble_eq_true rfl) dX6_ask_25 ⟨Nat.le_of_ble_eq_true rfl, Nat.le_of_ble_eq_true rfl⟩ (fun r_2 u H locs hw hP hD hS => ?_)
      subst hw
      have hP : va_P D vwCl [(a0_now, .inr (0, [.ref a0_now_counts, .ref a0_now_roads, .ref a0_now_bridges, .ref a0_now_waggons, .ref a0_now_parts, .ref a0_now_settings, .ref a0_now_trip, .int 0])), (a0_now_settings, .inl (E 0, 3, .inl (upd (upd (fun _ => 0) 0 100) 1 2)))] H := hP
      have hD : va_D A [(a0_now, .inr (0, [.ref a0_now_counts, .ref a0_now_roads, .ref a0_now_bridges, .ref a0_now_waggons, .ref a0_now_parts, .ref a0_now_settings, .ref a0_now_trip, .int 0])), (a0_now_settings, .inl (E 0, 3, .inl (upd (upd (fun _ => 0) 0 100) 1 2)))] := hD
      refine W.widen (k := 0) (n := 0) (Nat.le_refl _) (Nat.le_refl _) ?_
      refine W.widen (k := 0) (n := 0) (Nat.le_of_ble_eq_true rfl) (Nat.le_of_ble_eq_true rfl) ?_
      exact W.iret (v := (-2)) hx hb hr (fun t ht hW => ⟨⟨(-2), (), rfl, by unfold fX6_ask; rw [if_neg c_1, if_pos c_2], ⟨by rw [ht]; exact hP.sub [] rfl, hD.sub [] (by decide) rfl⟩⟩, hS.F ht⟩) hS.2.2 dX6_ask_28
