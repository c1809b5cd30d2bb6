set_option maxHeartbeats 4000000 in
set_option maxRecDepth 100000 in
theorem c_X6_holds (l : Launch) (D : va_G) (E : Nat → ClassId) (G : Nat → Nat) (a0 : Nat) (v_a : Int32) (a0_now : Nat) (a0_kept : Nat) (a0_ways : Nat) (a0_shelves : Nat) (a0_tape : Nat) (a0_reader : Nat) (a0_refusals : Nat) (a0_bestPack : Nat) (a0_shelves_held : Nat) (a0_shelves_size : Nat) (a0_shelves_cells : Nat) : Met l yX6_holds (oh_w yX6_holds cX6_holds 2 (some .int)) ({ frames := 2, cells := 0, slots := 0, locals := 42 }) (oh_Pp D E G [.ref a0, .int v_a] [(a0, .inr (6, [.ref a0_now, .ref a0_kept, .int 0, .ref a0_ways, .ref a0_shelves, .ref a0_tape, .ref a0_reader, .ref a0_refusals, .ref a0_bestPack])), (a0_shelves, .inr (3, [.ref a0_shelves_held, .ref a0_shelves_size, .ref a0_shelves_cells])), (a0_shelves_held, .inl (E 0, 8, .inl (fun _ => (-1))))]) (vp_Si (fun r => r = (-1))) 0 0 (fun _ => False) := by
  refine Met.ofW (cc := cX6_holds) (maxL := 2) (ret := (some .int)) (by decide) rfl ?_
  intro p e s m args below meth c s₁ B hml hv
  obtain ⟨rfl, hP, hK, hG⟩ := hv
  have hx := B.exec
  have hb := B.bytes
  have hr := B.returns
  have hts := atoms_spec (ws := (oh_w yX6_holds cX6_holds 2 (some .int))) B.pre
  have htg : ∀ w ∈ oh_t, w.before _ s = true := fun w h => hts w (List.mem_cons_of_mem _ h)
  have hown : s.vm.findClass RX6 = some m.cls := findClass_of_methodNamed B.named
  have hlocks := B.notSynchronized
  have hS : va_S (fun _ => False) s.heap s.heap [] := va_S.rf
  have hl := lv_entry ([.ref a0, .int v_a]) (n := 2) (Nat.le_of_ble_eq_true rfl)
  rw [lg_entry_eq]
  generalize (lg_sl ([.ref a0, .int v_a]) ++ List.replicate (2 - (lg_sl ([.ref a0, .int v_a])).length) Slot.unset).toArray = ls at hl ⊢
  have hl : lv_has ls 2 [(0, .ref a0), (1, .int v_a)] := hl
  refine lv_iload_n hx hb dX6_holds_0 rfl (lv_at hl 1 rfl) ?_
  refine oh_pS (As := [.int v_a]) (rest := []) (v := fX6_within v_a 0 7) ⟨hx, hb, hml, hown, htg⟩ (c_X6_isShelf l D E G v_a) (va_cwS 1 htg (oh_gS q_290 q_291 q_66 q_292) rfl rfl rfl pdX6_isShelf ⟨Nat.le_of_ble_eq_true rfl, Nat.le_of_ble_eq_true rfl⟩) hK (hP.sub (ws' := []) [] rfl) hG hS rfl hl.1 rfl (Nat.le_of_ble_eq_true rfl) dX6_holds_1 ⟨Nat.le_of_ble_eq_true rfl, Nat.le_of_ble_eq_true rfl⟩ ?_
  refine lv_if_eq (tgt := 19) hx hb dX6_holds_4 (by decide) (fun (c_1 : (fX6_within v_a 0 7) = 0) => ?_) (fun (c_1 : ¬ ((fX6_within v_a 0 7) = 0)) => ?_)
  · refine lv_iconst (v := (-1)) hx hb dX6_holds_19 (by decide) ?_
    exact W.iret (v := (-1)) hx hb hr (fun t ht hW => ⟨(-1), rfl, rfl, ht⟩) (fun q h => by cases h) dX6_holds_20
  · refine lv_aload_n hx hb dX6_holds_7 rfl (lv_at hl 0 rfl) ?_
    refine va_get (D := D) (ci := 6) (v := .ref a0_shelves) (C := RX6) (T := TX6) (N := 9) hx hb htg ig_6 hown hK hP 0 rfl rfl 4 (by decide) (htg _ q_262) (fun _ h9 => h9) rfl dX6_holds_8 ?_
    refine va_get (D := D) (ci := 3) (v := .ref a0_shelves_held) (C := RX3) (T := TX3) (N := 3) hx hb htg ig_3 hown hK hP 1 rfl rfl 0 (by decide) (htg _ q_199) (fun _ h9 => h9) rfl dX6_holds_11 ?_
    refine lv_iload_n hx hb dX6_holds_14 rfl (lv_at hl 1 rfl) ?_
    refine va_iald hx hb hK hP 2 0 rfl rfl (oh_win c_1 (by decide)) dX6_holds_15 ?_
    refine oh_nrm (v := (-1)) (by rfl) ?_
    refine lv_goto (tgt := 20) hx hb dX6_holds_16 (by decide) ?_
    exact W.iret (v := (-1)) hx hb hr (fun t ht hW => ⟨(-1), rfl, rfl, ht⟩) (fun q h => by cases h) dX6_holds_20
set_option maxHeartbeats 4000000 in
set_option maxRecDepth 100000 in
theorem c_X3_putBridge (l : Launch) (D : va_G) (E : Nat → ClassId) (G : Nat → Nat) (sz : Nat) (a0 : Nat) (v_s : Int32) (v_b : Int32) (a0_held : Nat) (a0_size : Nat) (a0_cells : Nat) (hs : vp_in v_s 8) : Met l yX3_putBridge (oh_w yX3_putBridge cX3_putBridge 3 none) ({ frames := 0, cells := 0, slots := 0, locals := 0 }) (oh_Pm D E G [.ref a0, .int v_s, .int v_b] [(a0, .inr (3, [.ref a0_held, .ref a0_size, .ref a0_cells])), (a0_held, .inl (E 0, 8, .inl (fun _ => (-1)))), (a0_size, .inl (E 0, 8, .inl (fun _ => 0)))] sz) (va_Qv (fun (_ : Unit) => True) (oh_B D (va_A [(a0, .inr (3, [.ref a0_held, .ref a0_size, .ref a0_cells])), (a0_held, .inl (E 0, 8, .inl (fun _ => (-1)))), (a0_size, .inl (E 0, 8, .inl (fun _ => 0)))] sz) (fun _ => [])) (va_A [(a0, .inr (3, [.ref a0_held, .ref a0_size, .ref a0_cells])), (a0_held, .inl (E 0, 8, .inl (fun _ => (-1)))), (a0_size, .inl (E 0, 8, .inl (fun _ => 0)))] sz)) 0 0 (va_A [(a0, .inr (3, [.ref a0_held, .ref a0_size, .ref a0_cells])), (a0_held, .inl (E 0, 8, .inl (fun _ => (-1)))), (a0_size, .inl (E 0, 8, .inl (fun _ => 0)))] sz) := by
  refine Met.ofW (cc := cX3_putBridge) (maxL := 3) (ret := none) (by decide) rfl ?_
  intro p e s m args below meth c s₁ B hml hv
  obtain ⟨rfl, hsz, hP, hK, hD0, hG⟩ := hv
  have hx := B.exec
  have hb := B.bytes
  have hr := B.returns
  have hts := atoms_spec (ws := (oh_w yX3_putBridge cX3_putBridge 3 none)) B.pre
  have htg : ∀ w ∈ oh_t, w.before _ s = true := fun w h => hts w (List.mem_cons_of_mem _ h)
  have hown : s.vm.findClass RX3 = some m.cls := findClass_of_methodNamed B.named
  have hlocks := B.notSynchronized
  subst hsz
  have hD := hD0.self (sz := s.heap.size)
  generalize hAe : va_A [(a0, .inr (3, [.ref a0_held, .ref a0_size, .ref a0_cells])), (a0_held, .inl (E 0, 8, .inl (fun _ => (-1)))), (a0_size, .inl (E 0, 8, .inl (fun _ => 0)))] s.heap.size = A at hD hG ⊢
  have hA : ∀ q : Nat, s.heap.size ≤ q → A q := fun q h => by rw [← hAe]; exact Or.inr h
  have hS : va_S A s.heap s.heap [] := va_S.rf
  have hP : va_P D vwCl [(a0, .inr (3, [.ref a0_held, .ref a0_size, .ref a0_cells])), (a0_held, .inl (E 0, 8, .inl (fun _ => (-1)))), (a0_size, .inl (E 0, 8, .inl (fun _ => 0)))] s.heap := hP
  have hl := lv_entry ([.ref a0, .int v_s, .int v_b]) (n := 3) (Nat.le_of_ble_eq_true rfl)
  rw [lg_entry_eq]
  generalize (lg_sl ([.ref a0, .int v_s, .int v_b]) ++ List.replicate (3 - (lg_sl ([.ref a0, .int v_s, .int v_b])).length) Slot.unset).toArray = ls at hl ⊢
  have hl : lv_has ls 3 [(0, .ref a0), (1, .int v_s), (2, .int v_b)] := hl
  refine lv_aload_n hx hb dX3_putBridge_0 rfl (lv_at hl 0 rfl) ?_
  refine va_get (D := D) (ci := 3) (v := .ref a0_held) (C := RX3) (T := TX3) (N := 3) hx hb htg ig_3 hown hK hP 0 rfl rfl 0 (by decide) (htg _ q_198) (fun _ h9 => h9) rfl dX3_putBridge_1 ?_
  refine lv_iload_n hx hb dX3_putBridge_4 rfl (lv_at hl 1 rfl) ?_
  refine lv_iload_n hx hb dX3_putBridge_5 rfl (lv_at hl 2 rfl) ?_
  refine lv_iconst (v := (-1)) hx hb dX3_putBridge_6 (by decide) ?_
  refine lv_icmp_ne (tgt := 14) hx hb dX3_putBridge_7 (by decide) (fun (c_1 : ¬ (v_b = (-1))) => ?_) (fun (c_1 : v_b = (-1)) => ?_)
  · refine lv_bipush (v := 10) hx hb dX3_putBridge_14 (by decide) ?_
    refine lv_iload_n hx hb dX3_putBridge_16 rfl (lv_at hl 2 rfl) ?_
    refine lv_iadd hx hb dX3_putBridge_17 ?_
    refine va_iast hx hb hK hP hD hS 1 0 rfl rfl hs dX3_putBridge_18 (fun H locs hP hD hS => ?_)
    have hP : va_P D vwCl [(a0, .inr (3, [.ref a0_held, .ref a0_size, .ref a0_cells])), (a0_held, .inl (E 0, 8, .inl (upd (fun _ => (-1)) ((v_s).toNatClampNeg) (10 + v_b)))), (a0_size, .inl (E 0, 8, .inl (fun _ => 0)))] H := hP
    have hD : va_D A [(a0, .inr (3, [.ref a0_held, .ref a0_size, .ref a0_cells])), (a0_held, .inl (E 0, 8, .inl (upd (fun _ => (-1)) ((v_s).toNatClampNeg) (10 + v_b)))), (a0_size, .inl (E 0, 8, .inl (fun _ => 0)))] := hD
    refine lv_aload_n hx hb dX3_putBridge_19 rfl (lv_at hl 0 rfl) ?_
    refine va_get (D := D) (ci := 3) (v := .ref a0_size) (C := RX3) (T := TX3) (N := 3) hx hb htg ig_3 hown hK hP 0 rfl rfl 1 (by decide) (htg _ q_200) (fun _ h9 => h9) rfl dX3_putBridge_20 ?_
    refine lv_iload_n hx hb dX3_putBridge_23 rfl (lv_at hl 1 rfl) ?_
    refine lv_iconst (v := 0) hx hb dX3_putBridge_24 (by decide) ?_
    refine va_iast hx hb hK hP hD hS 2 0 rfl rfl hs dX3_putBridge_25 (fun H locs hP hD hS => ?_)
    have hP : va_P D vwCl [(a0, .inr (3, [.ref a0_held, .ref a0_size, .ref a0_cells])), (a0_held, .inl (E 0, 8, .inl (upd (fun _ => (-1)) ((v_s).toNatClampNeg) (10 + v_b)))), (a0_size, .inl (E 0, 8, .inl (upd (fun _ => 0) ((v_s).toNatClampNeg) 0)))] H := hP
    have hD : va_D A [(a0, .inr (3, [.ref a0_held, .ref a0_size, .ref a0_cells])), (a0_held, .inl (E 0, 8, .inl (upd (fun _ => (-1)) ((v_s).toNatClampNeg) (10 + v_b)))), (a0_size, .inl (E 0, 8, .inl (upd (fun _ => 0) ((v_s).toNatClampNeg) 0)))] := hD
    refine W.widen (k := 0) (n := 0) (Nat.le_of_ble_eq_true rfl) (Nat.le_of_ble_eq_true rfl) ?_
    exact W.vret hx hb hr (fun t ht hW => ⟨⟨(), rfl, trivial, ⟨by rw [ht]; exact hP.sub [] rfl, hD.sub [] (by decide) rfl⟩⟩, hS.F ht⟩) hS.2.2 dX3_putBridge_26
  · refine lv_iconst (v := (-1)) hx hb dX3_putBridge_10 (by decide) ?_
    refine lv_goto (tgt := 18) hx hb dX3_putBridge_11 (by decide) ?_
    refine va_iast hx hb hK hP hD hS 1 0 rfl rfl hs dX3_putBridge_18 (fun H locs hP hD hS => ?_)
    have hP : va_P D vwCl [(a0, .inr (3, [.ref a0_held, .ref a0_size, .ref a0_cells])), (a0_held, .inl (E 0, 8, .inl (upd (fun _ => (-1)) ((v_s).toNatClampNeg) (-1)))), (a0_size, .inl (E 0, 8, .inl (fun _ => 0)))] H := hP
    have hD : va_D A [(a0, .inr (3, [.ref a0_held, .ref a0_size, .ref a0_cells])), (a0_held, .inl (E 0, 8, .inl (upd (fun _ => (-1)) ((v_s).toNatClampNeg) (-1)))), (a0_size, .inl (E 0, 8, .inl (fun _ => 0)))] := hD
    refine lv_aload_n hx hb dX3_putBridge_19 rfl (lv_at hl 0 rfl) ?_
    refine va_get (D := D) (ci := 3) (v := .ref a0_size) (C := RX3) (T := TX3) (N := 3) hx hb htg ig_3 hown hK hP 0 rfl rfl 1 (by decide) (htg _ q_200) (fun _ h9 => h9) rfl dX3_putBridge_20 ?_
    refine lv_iload_n hx hb dX3_putBridge_23 rfl (lv_at hl 1 rfl) ?_
    refine lv_iconst (v := 0) hx hb dX3_putBridge_24 (by decide) ?_
    refine va_iast hx hb hK hP hD hS 2 0 rfl rfl hs dX3_putBridge_25 (fun H locs hP hD hS => ?_)
    have hP : va_P D vwCl [(a0, .inr (3, [.ref a0_held, .ref a0_size, .ref a0_cells])), (a0_held, .inl (E 0, 8, .inl (upd (fun _ => (-1)) ((v_s).toNatClampNeg) (-1)))), (a0_size, .inl (E 0, 8, .inl (upd (fun _ => 0) ((v_s).toNatClampNeg) 0)))] H := hP
    have hD : va_D A [(a0, .inr (3, [.ref a0_held, .ref a0_size, .ref a0_cells])), (a0_held, .inl (E 0, 8, .inl (upd (fun _ => (-1)) ((v_s).toNatClampNeg) (-1)))), (a0_size, .inl (E 0, 8, .inl (upd (fun _ => 0) ((v_s).toNatClampNeg) 0)))] := hD
    refine W.widen (k := 0) (n := 0) (Nat.le_of_ble_eq_true rfl) (Nat.le_of_ble_eq_true rfl) ?_
    exact W.vret hx hb hr (fun t ht hW => ⟨⟨(), rfl, trivial, ⟨by rw [ht]; exact hP.sub [] rfl, hD.sub [] (by decide) rfl⟩⟩, hS.F ht⟩) hS.2.2 dX3_putBridge_26
def fX6_show (v_a : Int32) (v_b : Int32) : Int32 :=
  if (fX6_within v_a 0 7) = 0 then (-2) else if v_b = (-1) then 1 else (-2)
set_option maxHeartbeats 4000000 in
set_option maxRecDepth 100000 in
theorem c_X6_show (l : Launch) (D : va_G) (E : Nat → ClassId) (G : Nat → Nat) (sz : Nat) (a0 : Nat) (v_a : Int32) (v_b : Int32) (a0_now : Nat) (a0_kept : Nat) (a0_ways : Nat) (a0_shelves : Nat) (a0_tape : Nat) (a0_reader : Nat) (a0_refusals : Nat) (a0_bestPack : Nat) (a0_now_counts : Nat) (a0_now_roads : Nat) (a0_now_bridges : Nat) (a0_now_waggons : Nat) (a0_now_parts : Nat) (a0_now_settings : Nat) (a0_now_trip : Nat) (a0_shelves_held : Nat) (a0_shelves_size : Nat) (a0_shelves_cells : Nat) : Met l yX6_show (oh_w yX6_show cX6_show 3 (some .int)) ({ frames := 2, cells := 0, slots := 0, locals := 44 }) (oh_Pm D E G [.ref a0, .int v_a, .int v_b] [(a0, .inr (6, [.ref a0_now, .ref a0_kept, .int 0, .ref a0_ways, .ref a0_shelves, .ref a0_tape, .ref a0_reader, .ref a0_refusals, .ref a0_bestPack])), (a0_now, .inr (0, [.ref a0_now_counts, .ref a0_now_roads, .ref a0_now_bridges, .ref a0_now_waggons, .ref a0_now_parts, .ref a0_now_settings, .ref a0_now_trip, .int 0])), (a0_now_counts, .inl (E 0, 4, .inl (fun _ => 0))), (a0_shelves, .inr (3, [.ref a0_shelves_held, .ref a0_shelves_size, .ref a0_shelves_cells])), (a0_shelves_held, .inl (E 0, 8, .inl (fun _ => (-1)))), (a0_shelves_size, .inl (E 0, 8, .inl (fun _ => 0))), (a0_refusals, .inl (E 0, 5, .inl (fun _ => 0)))] sz) (va_Qi (fun r (_ : Unit) => r = fX6_show v_a v_b) (oh_B D (va_A [(a0, .inr (6, [.ref a0_now, .ref a0_kept, .int 0, .ref a0_ways, .ref a0_shelves, .ref a0_tape, .ref a0_reader, .ref a0_refusals, .ref a0_bestPack])), (a0_now, .inr (0, [.ref a0_now_counts, .ref a0_now_roads, .ref a0_now_bridges, .ref a0_now_waggons, .ref a0_now_parts, .ref a0_now_settings, .ref a0_now_trip, .int 0])), (a0_now_counts, .inl (E 0, 4, .inl (fun _ => 0))), (a0_shelves, .inr (3, [.ref a0_shelves_held, .ref a0_shelves_size, .ref a0_shelves_cells])), (a0_shelves_held, .inl (E 0, 8, .inl (fun _ => (-1)))), (a0_shelves_size, .inl (E 0, 8, .inl (fun _ => 0))), (a0_refusals, .inl (E 0, 5, .inl (fun _ => 0)))] sz) (fun _ => [])) (va_A [(a0, .inr (6, [.ref a0_now, .ref a0_kept, .int 0, .ref a0_ways, .ref a0_shelves, .ref a0_tape, .ref a0_reader, .ref a0_refusals, .ref a0_bestPack])), (a0_now, .inr (0, [.ref a0_now_counts, .ref a0_now_roads, .ref a0_now_bridges, .ref a0_now_waggons, .ref a0_now_parts, .ref a0_now_settings, .ref a0_now_trip, .int 0])), (a0_now_counts, .inl (E 0, 4, .inl (fun _ => 0))), (a0_shelves, .inr (3, [.ref a0_shelves_held, .ref a0_shelves_size, .ref a0_shelves_cells])), (a0_shelves_held, .inl (E 0, 8, .inl (fun _ => (-1)))), (a0_shelves_size, .inl (E 0, 8, .inl (fun _ => 0))), (a0_refusals, .inl (E 0, 5, .inl (fun _ => 0)))] sz)) 0 0 (va_A [(a0, .inr (6, [.ref a0_now, .ref a0_kept, .int 0, .ref a0_ways, .ref a0_shelves, .ref a0_tape, .ref a0_reader, .ref a0_refusals, .ref a0_bestPack])), (a0_now, .inr (0, [.ref a0_now_counts, .ref a0_now_roads, .ref a0_now_bridges, .ref a0_now_waggons, .ref a0_now_parts, .ref a0_now_settings, .ref a0_now_trip, .int 0])), (a0_now_counts, .inl (E 0, 4, .inl (fun _ => 0))), (a0_shelves, .inr (3, [.ref a0_shelves_held, .ref a0_shelves_size, .ref a0_shelves_cells])), (a0_shelves_held, .inl (E 0, 8, .inl (fun _ => (-1)))), (a0_shelves_size, .inl (E 0, 8, .inl (fun _ => 0))), (a0_refusals, .inl (E 0, 5, .inl (fun _ => 0)))] sz) := by
  refine Met.ofW (cc := cX6_show) (maxL := 3) (ret := (some .int)) (by decide) rfl ?_
  intro p e s m args below meth c s₁ B hml hv
  obtain ⟨rfl, hsz, hP, hK, hD0, hG⟩ := hv
  have hx := B.exec
  have hb := B.bytes
  have hr := B.returns
  have hts := atoms_spec (ws := (oh_w yX6_show cX6_show 3 (some .int))) B.pre
  have htg : ∀ w ∈ oh_t, w.before _ s = true := fun w h => hts w (List.mem_cons_of_mem _ h)
  have hown : s.vm.findClass RX6 = some m.cls := findClass_of_methodNamed B.named
  have hlocks := B.notSynchronized
  subst hsz
  have hD := hD0.self (sz := s.heap.size)
  generalize hAe : va_A [(a0, .inr (6, [.ref a0_now, .ref a0_kept, .int 0, .ref a0_ways, .ref a0_shelves, .ref a0_tape, .ref a0_reader, .ref a0_refusals, .ref a0_bestPack])), (a0_now, .inr (0, [.ref a0_now_counts, .ref a0_now_roads, .ref a0_now_bridges, .ref a0_now_waggons, .ref a0_now_parts, .ref a0_now_settings, .ref a0_now_trip, .int 0])), (a0_now_counts, .inl (E 0, 4, .inl (fun _ => 0))), (a0_shelves, .inr (3, [.ref a0_shelves_held, .ref a0_shelves_size, .ref a0_shelves_cells])), (a0_shelves_held, .inl (E 0, 8, .inl (fun _ => (-1)))), (a0_shelves_size, .inl (E 0, 8, .inl (fun _ => 0))), (a0_refusals, .inl (E 0, 5, .inl (fun _ => 0)))] s.heap.size = A at hD hG ⊢
  have hA : ∀ q : Nat, s.heap.size ≤ q → A q := fun q h => by rw [← hAe]; exact Or.inr h
  have hS : va_S A s.heap s.heap [] := va_S.rf
  have hP : va_P D vwCl [(a0, .inr (6, [.ref a0_now, .ref a0_kept, .int 0, .ref a0_ways, .ref a0_shelves, .ref a0_tape, .ref a0_reader, .ref a0_refusals, .ref a0_bestPack])), (a0_now, .inr (0, [.ref a0_now_counts, .ref a0_now_roads, .ref a0_now_bridges, .ref a0_now_waggons, .ref a0_now_parts, .ref a0_now_settings, .ref a0_now_trip, .int 0])), (a0_now_counts, .inl (E 0, 4, .inl (fun _ => 0))), (a0_shelves, .inr (3, [.ref a0_shelves_held, .ref a0_shelves_size, .ref a0_shelves_cells])), (a0_shelves_held, .inl (E 0, 8, .inl (fun _ => (-1)))), (a0_shelves_size, .inl (E 0, 8, .inl (fun _ => 0))), (a0_refusals, .inl (E 0, 5, .inl (fun _ => 0)))] s.heap := hP
  have hl := lv_entry ([.ref a0, .int v_a, .int v_b]) (n := 3) (Nat.le_of_ble_eq_true rfl)
  rw [lg_entry_eq]
  generalize (lg_sl ([.ref a0, .int v_a, .int v_b]) ++ List.replicate (3 - (lg_sl ([.ref a0, .int v_a, .int v_b])).length) Slot.unset).toArray = ls at hl ⊢
  have hl : lv_has ls 3 [(0, .ref a0), (1, .int v_a), (2, .int v_b)] := hl
  refine lv_iload_n hx hb dX6_show_0 rfl (lv_at hl 1 rfl) ?_
  refine oh_pS (As := [.int v_a]) (rest := []) (v := fX6_within v_a 0 7) ⟨hx, hb, hml, hown, htg⟩ (c_X6_isShelf l D E G v_a) (va_cwS 1 htg (oh_gS q_290 q_291 q_66 q_292) rfl rfl rfl pdX6_isShelf ⟨Nat.le_of_ble_eq_true rfl, Nat.le_of_ble_eq_true rfl⟩) hK (hP.sub (ws' := []) [] rfl) hG hS rfl hl.1 rfl (Nat.le_of_ble_eq_true rfl) dX6_show_1 ⟨Nat.le_of_ble_eq_true rfl, Nat.le_of_ble_eq_true rfl⟩ ?_
  refine lv_if_eq (tgt := 20) hx hb dX6_show_4 (by decide) (fun (c_1 : (fX6_within v_a 0 7) = 0) => ?_) (fun (c_1 : ¬ ((fX6_within v_a 0 7) = 0)) => ?_)
  · refine lv_aload_n hx hb dX6_show_20 rfl (lv_at hl 0 rfl) ?_
    refine lv_bipush (v := (-2)) hx hb dX6_show_21 (by decide) ?_
    refine oh_mV (As := [.int (-2)]) (rest := []) (wr := [(a0_now, .inr (0, [.ref a0_now_counts, .ref a0_now_roads, .ref a0_now_bridges, .ref a0_now_waggons, .ref a0_now_parts, .ref a0_now_settings, .ref a0_now_trip, .int 0])), (a0_now_counts, .inl (E 0, 4, .inl (fun _ => 0))), (a0_shelves, .inr (3, [.ref a0_shelves_held, .ref a0_shelves_size, .ref a0_shelves_cells])), (a0_shelves_held, .inl (E 0, 8, .inl (fun _ => (-1)))), (a0_shelves_size, .inl (E 0, 8, .inl (fun _ => 0)))]) ⟨hx, hb, hml, hown, htg⟩ (c_X6_refuse l D E G s.heap.size a0 (-2) a0_now a0_kept a0_ways a0_shelves a0_tape a0_reader a0_refusals a0_bestPack) (cwV 1 htg (oh_gV q_296 q_298 q_0 q_66 q_299) rfl rfl rfl pdVX6_refuse ⟨Nat.le_of_ble_eq_true rfl, Nat.le_of_ble_eq_true rfl⟩) hK hP hD hG hS hA [0, 6] [1, 2, 3, 4, 5] rfl rfl (by decide) (by decide) (by decide) (va_recv hK hP (ci := 6) (q0 := 0) rfl rfl) rfl hl.1 rfl (Nat.le_of_ble_eq_true rfl) dX6_show_23 ⟨Nat.le_of_ble_eq_true rfl, Nat.le_of_ble_eq_true rfl⟩ (fun r_1 u H locs hw hP hD hS => ?_)
    subst hw
    have hP : va_P D vwCl [(a0_now, .inr (0, [.ref a0_now_counts, .ref a0_now_roads, .ref a0_now_bridges, .ref a0_now_waggons, .ref a0_now_parts, .ref a0_now_settings, .ref a0_now_trip, .int 0])), (a0_now_counts, .inl (E 0, 4, .inl (fun _ => 0))), (a0_shelves, .inr (3, [.ref a0_shelves_held, .ref a0_shelves_size, .ref a0_shelves_cells])), (a0_shelves_held, .inl (E 0, 8, .inl (fun _ => (-1)))), (a0_shelves_size, .inl (E 0, 8, .inl (fun _ => 0))), (a0, .inr (6, [.ref a0_now, .ref a0_kept, .int 0, .ref a0_ways, .ref a0_shelves, .ref a0_tape, .ref a0_reader, .ref a0_refusals, .ref a0_bestPack]))] H := hP
    have hD : va_D A [(a0_now, .inr (0, [.ref a0_now_counts, .ref a0_now_roads, .ref a0_now_bridges, .ref a0_now_waggons, .ref a0_now_parts, .ref a0_now_settings, .ref a0_now_trip, .int 0])), (a0_now_counts, .inl (E 0, 4, .inl (fun _ => 0))), (a0_shelves, .inr (3, [.ref a0_shelves_held, .ref a0_shelves_size, .ref a0_shelves_cells])), (a0_shelves_held, .inl (E 0, 8, .inl (fun _ => (-1)))), (a0_shelves_size, .inl (E 0, 8, .inl (fun _ => 0))), (a0, .inr (6, [.ref a0_now, .ref a0_kept, .int 0, .ref a0_ways, .ref a0_shelves, .ref a0_tape, .ref a0_reader, .ref a0_refusals, .ref a0_bestPack]))] := hD
    refine W.widen (k := 0) (n := 0) (Nat.le_refl _) (Nat.le_refl _) ?_
    refine W.widen (k := 0) (n := 0) (Nat.le_of_ble_eq_true rfl) (Nat.le_of_ble_eq_true rfl) ?_
    exact W.iret (v := (-2)) hx hb hr (fun t ht hW => ⟨⟨(-2), (), rfl, by unfold fX6_show; rw [if_pos c_1], ⟨by rw [ht]; exact hP.sub [] rfl, hD.sub [] (by decide) rfl⟩⟩, hS.F ht⟩) hS.2.2 dX6_show_26
  · refine lv_iload_n hx hb dX6_show_7 rfl (lv_at hl 2 rfl) ?_
    refine lv_iconst (v := (-1)) hx hb dX6_show_8 (by decide) ?_
    refine lv_icmp_eq (tgt := 27) hx hb dX6_show_9 (by decide) (fun (c_2 : v_b = (-1)) => ?_) (fun (c_2 : ¬ (v_b = (-1))) => ?_)
    · refine lv_aload_n hx hb dX6_show_27 rfl (lv_at hl 0 rfl) ?_
      refine va_get (D := D) (ci := 6) (v := .ref a0_shelves) (C := RX6) (T := TX6) (N := 9) hx hb htg ig_6 hown hK hP 0 rfl rfl 4 (by decide) (htg _ q_262) (fun _ h9 => h9) rfl dX6_show_28 ?_
      refine lv_iload_n hx hb dX6_show_31 rfl (lv_at hl 1 rfl) ?_
      refine lv_iload_n hx hb dX6_show_32 rfl (lv_at hl 2 rfl) ?_
      refine oh_mVv (As := [.int v_a, .int v_b]) (rest := []) (wr := [(a0, .inr (6, [.ref a0_now, .ref a0_kept, .int 0, .ref a0_ways, .ref a0_shelves, .ref a0_tape, .ref a0_reader, .ref a0_refusals, .ref a0_bestPack])), (a0_now, .inr (0, [.ref a0_now_counts, .ref a0_now_roads, .ref a0_now_bridges, .ref a0_now_waggons, .ref a0_now_parts, .ref a0_now_settings, .ref a0_now_trip, .int 0])), (a0_now_counts, .inl (E 0, 4, .inl (fun _ => 0))), (a0_refusals, .inl (E 0, 5, .inl (fun _ => 0)))]) ⟨hx, hb, hml, hown, htg⟩ (c_X3_putBridge l D E G s.heap.size a0_shelves v_a v_b a0_shelves_held a0_shelves_size a0_shelves_cells (oh_win c_1 (by decide))) (cwV 2 htg (oh_gV q_370 q_371 q_372 q_70 q_373) rfl rfl rfl pdVX3_putBridge ⟨Nat.le_of_ble_eq_true rfl, Nat.le_of_ble_eq_true rfl⟩) hK hP hD hG hS hA [3, 4, 5] [0, 1, 2, 6] rfl rfl (by decide) (by decide) (by decide) (va_recv hK hP (ci := 3) (q0 := 3) rfl rfl) rfl hl.1 rfl (Nat.le_of_ble_eq_true rfl) dX6_show_33 ⟨Nat.le_of_ble_eq_true rfl, Nat.le_of_ble_eq_true rfl⟩ (fun u H locs hw hP hD hS => ?_)
      have hP : va_P D vwCl [(a0, .inr (6, [.ref a0_now, .ref a0_kept, .int 0, .ref a0_ways, .ref a0_shelves, .ref a0_tape, .ref a0_reader, .ref a0_refusals, .ref a0_bestPack])), (a0_now, .inr (0, [.ref a0_now_counts, .ref a0_now_roads, .ref a0_now_bridges, .ref a0_now_waggons, .ref a0_now_parts, .ref a0_now_settings, .ref a0_now_trip, .int 0])), (a0_now_counts, .inl (E 0, 4, .inl (fun _ => 0))), (a0_refusals, .inl (E 0, 5, .inl (fun _ => 0)))] H := hP
      have hD : va_D A [(a0, .inr (6, [.ref a0_now, .ref a0_kept, .int 0, .ref a0_ways, .ref a0_shelves, .ref a0_tape, .ref a0_reader, .ref a0_refusals, .ref a0_bestPack])), (a0_now, .inr (0, [.ref a0_now_counts, .ref a0_now_roads, .ref a0_now_bridges, .ref a0_now_waggons, .ref a0_now_parts, .ref a0_now_settings, .ref a0_now_trip, .int 0])), (a0_now_counts, .inl (E 0, 4, .inl (fun _ => 0))), (a0_refusals, .inl (E 0, 5, .inl (fun _ => 0)))] := hD
      refine W.widen (k := 0) (n := 0) (Nat.le_refl _) (Nat.le_refl _) ?_
      refine lv_iconst (v := 1) hx hb dX6_show_36 (by decide) ?_
      refine W.widen (k := 0) (n := 0) (Nat.le_of_ble_eq_true rfl) (Nat.le_of_ble_eq_true rfl) ?_
      exact W.iret (v := 1) hx hb hr (fun t ht hW => ⟨⟨1, (), rfl, by unfold fX6_show; rw [if_neg c_1, if_pos c_2], ⟨by rw [ht]; exact hP.sub [] rfl, hD.sub [] (by decide) rfl⟩⟩, hS.F ht⟩) hS.2.2 dX6_show_37
    · refine lv_aload_n hx hb dX6_show_12 rfl (lv_at hl 0 rfl) ?_
      refine lv_iload_n hx hb dX6_show_13 rfl (lv_at hl 2 rfl) ?_
      refine oh_pV (As := [.int v_b]) (rest := []) (v := 0) ⟨hx, hb, hml, hown, htg⟩ (k_X6_isBridge l D E G a0 v_b a0_now a0_kept a0_ways a0_shelves a0_tape a0_reader a0_refusals a0_bestPack a0_now_counts a0_now_roads a0_now_bridges a0_now_waggons a0_now_parts a0_now_settings a0_now_trip) (cwV 1 htg (oh_gV q_366 q_368 q_2 q_66 q_369) rfl rfl rfl pdVX6_isBridge ⟨Nat.le_of_ble_eq_true rfl, Nat.le_of_ble_eq_true rfl⟩) hK (hP.sub (ws' := [(a0, .inr (6, [.ref a0_now, .ref a0_kept, .int 0, .ref a0_ways, .ref a0_shelves, .ref a0_tape, .ref a0_reader, .ref a0_refusals, .ref a0_bestPack])), (a0_now, .inr (0, [.ref a0_now_counts, .ref a0_now_roads, .ref a0_now_bridges, .ref a0_now_waggons, .ref a0_now_parts, .ref a0_now_settings, .ref a0_now_trip, .int 0])), (a0_now_counts, .inl (E 0, 4, .inl (fun _ => 0)))]) [0, 1, 2] rfl) hG hS (va_recv hK hP (ci := 6) (q0 := 0) rfl rfl) rfl hl.1 rfl (Nat.le_of_ble_eq_true rfl) dX6_show_14 ⟨Nat.le_of_ble_eq_true rfl, Nat.le_of_ble_eq_true rfl⟩ ?_
      refine lv_if_ne (tgt := 27) hx hb dX6_show_17 (by decide) (fun c => absurd (show (0 : Int32) = 0 from by decide) c) (fun _ => ?_)
      refine lv_aload_n hx hb dX6_show_20 rfl (lv_at hl 0 rfl) ?_
      refine lv_bipush (v := (-2)) hx hb dX6_show_21 (by decide) ?_
      refine oh_mV (As := [.int (-2)]) (rest := []) (wr := [(a0_now, .inr (0, [.ref a0_now_counts, .ref a0_now_roads, .ref a0_now_bridges, .ref a0_now_waggons, .ref a0_now_parts, .ref a0_now_settings, .ref a0_now_trip, .int 0])), (a0_now_counts, .inl (E 0, 4, .inl (fun _ => 0))), (a0_shelves, .inr (3, [.ref a0_shelves_held, .ref a0_shelves_size, .ref a0_shelves_cells])), (a0_shelves_held, .inl (E 0, 8, .inl (fun _ => (-1)))), (a0_shelves_size, .inl (E 0, 8, .inl (fun _ => 0)))]) ⟨hx, hb, hml, hown, htg⟩ (c_X6_refuse l D E G s.heap.size a0 (-2) a0_now a0_kept a0_ways a0_shelves a0_tape a0_reader a0_refusals a0_bestPack) (cwV 1 htg (oh_gV q_296 q_298 q_0 q_66 q_299) rfl rfl rfl pdVX6_refuse ⟨Nat.le_of_ble_eq_true rfl, Nat.le_of_ble_eq_true rfl⟩) hK hP hD hG hS hA [0, 6] [1, 2, 3, 4, 5] rfl rfl (by decide) (by decide) (by decide) (va_recv hK hP (ci := 6) (q0 := 0) rfl rfl) rfl hl.1 rfl (Nat.le_of_ble_eq_true rfl) dX6_show_23 ⟨Nat.le_of_ble_eq_true rfl, Nat.le_of_ble_eq_true rfl⟩ (fun r_3 u H locs hw hP hD hS => ?_)
      subst hw
      have hP : va_P D vwCl [(a0_now, .inr (0, [.ref a0_now_counts, .ref a0_now_roads, .ref a0_now_bridges, .ref a0_now_waggons, .ref a0_now_parts, .ref a0_now_settings, .ref a0_now_trip, .int 0])), (a0_now_counts, .inl (E 0, 4, .inl (fun _ => 0))), (a0_shelves, .inr (3, [.ref a0_shelves_held, .ref a0_shelves_size, .ref a0_shelves_cells])), (a0_shelves_held, .inl (E 0, 8, .inl (fun _ => (-1)))), (a0_shelves_size, .inl (E 0, 8, .inl (fun _ => 0))), (a0, .inr (6, [.ref a0_now, .ref a0_kept, .int 0, .ref a0_ways, .ref a0_shelves, .ref a0_tape, .ref a0_reader, .ref a0_refusals, .ref a0_bestPack]))] H := hP
      have hD : va_D A [(a0_now, .inr (0, [.ref a0_now_counts, .ref a0_now_roads, .ref a0_now_bridges, .ref a0_now_waggons, .ref a0_now_parts, .ref a0_now_settings, .ref a0_now_trip, .int 0])), (a0_now_counts, .inl (E 0, 4, .inl (fun _ => 0))), (a0_shelves, .inr (3, [.ref a0_shelves_held, .ref a0_shelves_size, .ref a0_shelves_cells])), (a0_shelves_held, .inl (E 0, 8, .inl (fun _ => (-1)))), (a0_shelves_size, .inl (E 0, 8, .inl (fun _ => 0))), (a0, .inr (6, [.ref a0_now, .ref a0_kept, .int 0, .ref a0_ways, .ref a0_shelves, .ref a0_tape, .ref a0_reader, .ref a0_refusals, .ref a0_bestPack]))] := hD
      refine W.widen (k := 0) (n := 0) (Nat.le_refl _) (Nat.le_refl _) ?_
      refine W.widen (k := 0) (n := 0) (Nat.le_of_ble_eq_true rfl) (Nat.le_of_ble_eq_true rfl) ?_
      exact W.iret (v := (-2)) hx hb hr (fun t ht hW => ⟨⟨(-2), (), rfl, by unfold fX6_show; rw [if_neg c_1, if_neg c_2], ⟨by rw [ht]; exact hP.sub [] rfl, hD.sub [] (by decide) rfl⟩⟩, hS.F ht⟩) hS.2.2 dX6_show_26
def fX6_says (v_a : Int32) (v_b : Int32) : Int32 :=
  if (fX6_within v_a 0 7) = 0 then (-2) else if (fX6_within v_b 0 5) = 0 then (-2) else (-4)
set_option maxHeartbeats 4000000 in
set_option maxRecDepth 100000 in
theorem c_X6_says (l : Launch) (D : va_G) (E : Nat → ClassId) (G : Nat → Nat) (sz : Nat) (a0 : Nat) (v_a : Int32) (v_b : Int32) (a0_now : Nat) (a0_kept : Nat) (a0_ways : Nat) (a0_shelves : Nat) (a0_tape : Nat) (a0_reader : Nat) (a0_refusals : Nat) (a0_bestPack : Nat) (a0_now_counts : Nat) (a0_now_roads : Nat) (a0_now_bridges : Nat) (a0_now_waggons : Nat) (a0_now_parts : Nat) (a0_now_settings : Nat) (a0_now_trip : Nat) (a0_shelves_held : Nat) (a0_shelves_size : Nat) (a0_shelves_cells : Nat) : Met l yX6_says (oh_w yX6_says cX6_says 4 (some .int)) ({ frames := 2, cells := 0, slots := 0, locals := 44 }) (oh_Pm D E G [.ref a0, .int v_a, .int v_b] [(a0, .inr (6, [.ref a0_now, .ref a0_kept, .int 0, .ref a0_ways, .ref a0_shelves, .ref a0_tape, .ref a0_reader, .ref a0_refusals, .ref a0_bestPack])), (a0_now, .inr (0, [.ref a0_now_counts, .ref a0_now_roads, .ref a0_now_bridges, .ref a0_now_waggons, .ref a0_now_parts, .ref a0_now_settings, .ref a0_now_trip, .int 0])), (a0_now_counts, .inl (E 0, 4, .inl (fun _ => 0))), (a0_shelves, .inr (3, [.ref a0_shelves_held, .ref a0_shelves_size, .ref a0_shelves_cells])), (a0_shelves_held, .inl (E 0, 8, .inl (fun _ => (-1)))), (a0_refusals, .inl (E 0, 5, .inl (fun _ => 0)))] sz) (va_Qi (fun r (_ : Unit) => r = fX6_says v_a v_b) (oh_B D (va_A [(a0, .inr (6, [.ref a0_now, .ref a0_kept, .int 0, .ref a0_ways, .ref a0_shelves, .ref a0_tape, .ref a0_reader, .ref a0_refusals, .ref a0_bestPack])), (a0_now, .inr (0, [.ref a0_now_counts, .ref a0_now_roads, .ref a0_now_bridges, .ref a0_now_waggons, .ref a0_now_parts, .ref a0_now_settings, .ref a0_now_trip, .int 0])), (a0_now_counts, .inl (E 0, 4, .inl (fun _ => 0))), (a0_shelves, .inr (3, [.ref a0_shelves_held, .ref a0_shelves_size, .ref a0_shelves_cells])), (a0_shelves_held, .inl (E 0, 8, .inl (fun _ => (-1)))), (a0_refusals, .inl (E 0, 5, .inl (fun _ => 0)))] sz) (fun _ => [])) (va_A [(a0, .inr (6, [.ref a0_now, .ref a0_kept, .int 0, .ref a0_ways, .ref a0_shelves, .ref a0_tape, .ref a0_reader, .ref a0_refusals, .ref a0_bestPack])), (a0_now, .inr (0, [.ref a0_now_counts, .ref a0_now_roads, .ref a0_now_bridges, .ref a0_now_waggons, .ref a0_now_parts, .ref a0_now_settings, .ref a0_now_trip, .int 0])), (a0_now_counts, .inl (E 0, 4, .inl (fun _ => 0))), (a0_shelves, .inr (3, [.ref a0_shelves_held, .ref a0_shelves_size, .ref a0_shelves_cells])), (a0_shelves_held, .inl (E 0, 8, .inl (fun _ => (-1)))), (a0_refusals, .inl (E 0, 5, .inl (fun _ => 0)))] sz)) 0 0 (va_A [(a0, .inr (6, [.ref a0_now, .ref a0_kept, .int 0, .ref a0_ways, .ref a0_shelves, .ref a0_tape, .ref a0_reader, .ref a0_refusals, .ref a0_bestPack])), (a0_now, .inr (0, [.ref a0_now_counts, .ref a0_now_roads, .ref a0_now_bridges, .ref a0_now_waggons, .ref a0_now_parts, .ref a0_now_settings, .ref a0_now_trip, .int 0])), (a0_now_counts, .inl (E 0, 4, .inl (fun _ => 0))), (a0_shelves, .inr (3, [.ref a0_shelves_held, .ref a0_shelves_size, .ref a0_shelves_cells])), (a0_shelves_held, .inl (E 0, 8, .inl (fun _ => (-1)))), (a0_refusals, .inl (E 0, 5, .inl (fun _ => 0)))] sz) := by
  refine Met.ofW (cc := cX6_says) (maxL := 4) (ret := (some .int)) (by decide) rfl ?_
  intro p e s m args below meth c s₁ B hml hv
  obtain ⟨rfl, hsz, hP, hK, hD0, hG⟩ := hv
  have hx := B.exec
  have hb := B.bytes
  have hr := B.returns
  have hts := atoms_spec (ws := (oh_w yX6_says cX6_says 4 (some .int))) B.pre
  have htg : ∀ w ∈ oh_t, w.before _ s = true := fun w h => hts w (List.mem_cons_of_mem _ h)
  have hown : s.vm.findClass RX6 = some m.cls := findClass_of_methodNamed B.named
  have hlocks := B.notSynchronized
  subst hsz
  have hD := hD0.self (sz := s.heap.size)
  generalize hAe : va_A [(a0, .inr (6, [.ref a0_now, .ref a0_kept, .int 0, .ref a0_ways, .ref a0_shelves, .ref a0_tape, .ref a0_reader, .ref a0_refusals, .ref a0_bestPack])), (a0_now, .inr (0, [.ref a0_now_counts, .ref a0_now_roads, .ref a0_now_bridges, .ref a0_now_waggons, .ref a0_now_parts, .ref a0_now_settings, .ref a0_now_trip, .int 0])), (a0_now_counts, .inl (E 0, 4, .inl (fun _ => 0))), (a0_shelves, .inr (3, [.ref a0_shelves_held, .ref a0_shelves_size, .ref a0_shelves_cells])), (a0_shelves_held, .inl (E 0, 8, .inl (fun _ => (-1)))), (a0_refusals, .inl (E 0, 5, .inl (fun _ => 0)))] s.heap.size = A at hD hG ⊢
  have hA : ∀ q : Nat, s.heap.size ≤ q → A q := fun q h => by rw [← hAe]; exact Or.inr h
  have hS : va_S A s.heap s.heap [] := va_S.rf
  have hP : va_P D vwCl [(a0, .inr (6, [.ref a0_now, .ref a0_kept, .int 0, .ref a0_ways, .ref a0_shelves, .ref a0_tape, .ref a0_reader, .ref a0_refusals, .ref a0_bestPack])), (a0_now, .inr (0, [.ref a0_now_counts, .ref a0_now_roads, .ref a0_now_bridges, .ref a0_now_waggons, .ref a0_now_parts, .ref a0_now_settings, .ref a0_now_trip, .int 0])), (a0_now_counts, .inl (E 0, 4, .inl (fun _ => 0))), (a0_shelves, .inr (3, [.ref a0_shelves_held, .ref a0_shelves_size, .ref a0_shelves_cells])), (a0_shelves_held, .inl (E 0, 8, .inl (fun _ => (-1)))), (a0_refusals, .inl (E 0, 5, .inl (fun _ => 0)))] s.heap := hP
  have hl := lv_entry ([.ref a0, .int v_a, .int v_b]) (n := 4) (Nat.le_of_ble_eq_true rfl)
  rw [lg_entry_eq]
  generalize (lg_sl ([.ref a0, .int v_a, .int v_b]) ++ List.replicate (4 - (lg_sl ([.ref a0, .int v_a, .int v_b])).length) Slot.unset).toArray = ls at hl ⊢
  have hl : lv_has ls 4 [(0, .ref a0), (1, .int v_a), (2, .int v_b)] := hl
  refine lv_iload_n hx hb dX6_says_0 rfl (lv_at hl 1 rfl) ?_
  refine oh_pS (As := [.int v_a]) (rest := []) (v := fX6_within v_a 0 7) ⟨hx, hb, hml, hown, htg⟩ (c_X6_isShelf l D E G v_a) (va_cwS 1 htg (oh_gS q_290 q_291 q_66 q_292) rfl rfl rfl pdX6_isShelf ⟨Nat.le_of_ble_eq_true rfl, Nat.le_of_ble_eq_true rfl⟩) hK (hP.sub (ws' := []) [] rfl) hG hS rfl hl.1 rfl (Nat.le_of_ble_eq_true rfl) dX6_says_1 ⟨Nat.le_of_ble_eq_true rfl, Nat.le_of_ble_eq_true rfl⟩ ?_
  refine lv_if_eq (tgt := 16) hx hb dX6_says_4 (by decide) (fun (c_1 : (fX6_within v_a 0 7) = 0) => ?_) (fun (c_1 : ¬ ((fX6_within v_a 0 7) = 0)) => ?_)
  · refine lv_aload_n hx hb dX6_says_16 rfl (lv_at hl 0 rfl) ?_
    refine lv_bipush (v := (-2)) hx hb dX6_says_17 (by decide) ?_
    refine oh_mV (As := [.int (-2)]) (rest := []) (wr := [(a0_now, .inr (0, [.ref a0_now_counts, .ref a0_now_roads, .ref a0_now_bridges, .ref a0_now_waggons, .ref a0_now_parts, .ref a0_now_settings, .ref a0_now_trip, .int 0])), (a0_now_counts, .inl (E 0, 4, .inl (fun _ => 0))), (a0_shelves, .inr (3, [.ref a0_shelves_held, .ref a0_shelves_size, .ref a0_shelves_cells])), (a0_shelves_held, .inl (E 0, 8, .inl (fun _ => (-1))))]) ⟨hx, hb, hml, hown, htg⟩ (c_X6_refuse l D E G s.heap.size a0 (-2) a0_now a0_kept a0_ways a0_shelves a0_tape a0_reader a0_refusals a0_bestPack) (cwV 1 htg (oh_gV q_296 q_298 q_0 q_66 q_299) rfl rfl rfl pdVX6_refuse ⟨Nat.le_of_ble_eq_true rfl, Nat.le_of_ble_eq_true rfl⟩) hK hP hD hG hS hA [0, 5] [1, 2, 3, 4] rfl rfl (by decide) (by decide) (by decide) (va_recv hK hP (ci := 6) (q0 := 0) rfl rfl) rfl hl.1 rfl (Nat.le_of_ble_eq_true rfl) dX6_says_19 ⟨Nat.le_of_ble_eq_true rfl, Nat.le_of_ble_eq_true rfl⟩ (fun r_1 u H locs hw hP hD hS => ?_)
    subst hw
    have hP : va_P D vwCl [(a0_now, .inr (0, [.ref a0_now_counts, .ref a0_now_roads, .ref a0_now_bridges, .ref a0_now_waggons, .ref a0_now_parts, .ref a0_now_settings, .ref a0_now_trip, .int 0])), (a0_now_counts, .inl (E 0, 4, .inl (fun _ => 0))), (a0_shelves, .inr (3, [.ref a0_shelves_held, .ref a0_shelves_size, .ref a0_shelves_cells])), (a0_shelves_held, .inl (E 0, 8, .inl (fun _ => (-1)))), (a0, .inr (6, [.ref a0_now, .ref a0_kept, .int 0, .ref a0_ways, .ref a0_shelves, .ref a0_tape, .ref a0_reader, .ref a0_refusals, .ref a0_bestPack]))] H := hP
    have hD : va_D A [(a0_now, .inr (0, [.ref a0_now_counts, .ref a0_now_roads, .ref a0_now_bridges, .ref a0_now_waggons, .ref a0_now_parts, .ref a0_now_settings, .ref a0_now_trip, .int 0])), (a0_now_counts, .inl (E 0, 4, .inl (fun _ => 0))), (a0_shelves, .inr (3, [.ref a0_shelves_held, .ref a0_shelves_size, .ref a0_shelves_cells])), (a0_shelves_held, .inl (E 0, 8, .inl (fun _ => (-1)))), (a0, .inr (6, [.ref a0_now, .ref a0_kept, .int 0, .ref a0_ways, .ref a0_shelves, .ref a0_tape, .ref a0_reader, .ref a0_refusals, .ref a0_bestPack]))] := hD
    refine W.widen (k := 0) (n := 0) (Nat.le_refl _) (Nat.le_refl _) ?_
    refine W.widen (k := 0) (n := 0) (Nat.le_of_ble_eq_true rfl) (Nat.le_of_ble_eq_true rfl) ?_
    exact W.iret (v := (-2)) hx hb hr (fun t ht hW => ⟨⟨(-2), (), rfl, by unfold fX6_says; rw [if_pos c_1], ⟨by rw [ht]; exact hP.sub [] rfl, hD.sub [] (by decide) rfl⟩⟩, hS.F ht⟩) hS.2.2 dX6_says_22
  · refine lv_iload_n hx hb dX6_says_7 rfl (lv_at hl 2 rfl) ?_
    refine lv_iconst (v := 0) hx hb dX6_says_8 (by decide) ?_
    refine lv_iconst (v := 5) hx hb dX6_says_9 (by decide) ?_
    refine oh_pS (As := [.int v_b, .int 0, .int 5]) (rest := []) (v := fX6_within v_b 0 5) ⟨hx, hb, hml, hown, htg⟩ (c_X6_within l D E G v_b 0 5) (va_cwS 3 htg (oh_gS q_293 q_294 q_66 q_295) rfl rfl rfl pdX6_within ⟨Nat.le_of_ble_eq_true rfl, Nat.le_of_ble_eq_true rfl⟩) hK (hP.sub (ws' := []) [] rfl) hG hS rfl hl.1 rfl (Nat.le_of_ble_eq_true rfl) dX6_says_10 ⟨Nat.le_of_ble_eq_true rfl, Nat.le_of_ble_eq_true rfl⟩ ?_
    refine lv_if_ne (tgt := 23) hx hb dX6_says_13 (by decide) (fun (c_2 : ¬ ((fX6_within v_b 0 5) = 0)) => ?_) (fun (c_2 : (fX6_within v_b 0 5) = 0) => ?_)
    · refine lv_aload_n hx hb dX6_says_23 rfl (lv_at hl 0 rfl) ?_
      refine va_get (D := D) (ci := 6) (v := .ref a0_shelves) (C := RX6) (T := TX6) (N := 9) hx hb htg ig_6 hown hK hP 0 rfl rfl 4 (by decide) (htg _ q_262) (fun _ h9 => h9) rfl dX6_says_24 ?_
      refine lv_iload_n hx hb dX6_says_27 rfl (lv_at hl 1 rfl) ?_
      refine oh_pV (As := [.int v_a]) (rest := []) (v := 0) ⟨hx, hb, hml, hown, htg⟩ (c_X3_holdsRow l D E G a0_shelves v_a a0_shelves_held a0_shelves_size a0_shelves_cells (oh_win c_1 (by decide))) (cwV 1 htg (oh_gV q_352 q_336 q_337 q_70 q_338) rfl rfl rfl pdVX3_holdsRow ⟨Nat.le_of_ble_eq_true rfl, Nat.le_of_ble_eq_true rfl⟩) hK (hP.sub (ws' := [(a0_shelves, .inr (3, [.ref a0_shelves_held, .ref a0_shelves_size, .ref a0_shelves_cells])), (a0_shelves_held, .inl (E 0, 8, .inl (fun _ => (-1))))]) [3, 4] rfl) hG hS (va_recv hK hP (ci := 3) (q0 := 3) rfl rfl) rfl hl.1 rfl (Nat.le_of_ble_eq_true rfl) dX6_says_28 ⟨Nat.le_of_ble_eq_true rfl, Nat.le_of_ble_eq_true rfl⟩ ?_
      refine lv_if_eq (tgt := 41) hx hb dX6_says_31 (by decide) (fun _ => ?_) (fun c => absurd (show (0 : Int32) = 0 from by decide) c)
      refine lv_aload_n hx hb dX6_says_41 rfl (lv_at hl 0 rfl) ?_
      refine va_get (D := D) (ci := 6) (v := .ref a0_shelves) (C := RX6) (T := TX6) (N := 9) hx hb htg ig_6 hown hK hP 0 rfl rfl 4 (by decide) (htg _ q_262) (fun _ h9 => h9) rfl dX6_says_42 ?_
      refine va_get (D := D) (ci := 3) (v := .ref a0_shelves_held) (C := RX3) (T := TX3) (N := 3) hx hb htg ig_3 hown hK hP 3 rfl rfl 0 (by decide) (htg _ q_199) (fun _ h9 => h9) rfl dX6_says_45 ?_
      refine lv_iload_n hx hb dX6_says_48 rfl (lv_at hl 1 rfl) ?_
      refine va_iald hx hb hK hP 4 0 rfl rfl (oh_win c_1 (by decide)) dX6_says_49 ?_
      refine oh_nrm (v := (-1)) (by rfl) ?_
      refine lv_bipush (v := 10) hx hb dX6_says_50 (by decide) ?_
      refine lv_isub hx hb dX6_says_52 ?_
      refine oh_nrm (v := (-11)) (by decide) ?_
      refine lv_istore_n (lv' := [(3, .int (-11)), (0, .ref a0), (1, .int v_a), (2, .int v_b)]) hx hb dX6_says_53 rfl hl (by decide) rfl (fun ls hl => ?_)
      refine lv_aload_n hx hb dX6_says_54 rfl (lv_at hl 1 rfl) ?_
      refine lv_iload_n hx hb dX6_says_55 rfl (lv_at hl 0 rfl) ?_
      refine oh_pV (As := [.int (-11)]) (rest := []) (v := 0) ⟨hx, hb, hml, hown, htg⟩ (k_X6_isBridge l D E G a0 (-11) a0_now a0_kept a0_ways a0_shelves a0_tape a0_reader a0_refusals a0_bestPack a0_now_counts a0_now_roads a0_now_bridges a0_now_waggons a0_now_parts a0_now_settings a0_now_trip) (cwV 1 htg (oh_gV q_366 q_368 q_2 q_66 q_369) rfl rfl rfl pdVX6_isBridge ⟨Nat.le_of_ble_eq_true rfl, Nat.le_of_ble_eq_true rfl⟩) hK (hP.sub (ws' := [(a0, .inr (6, [.ref a0_now, .ref a0_kept, .int 0, .ref a0_ways, .ref a0_shelves, .ref a0_tape, .ref a0_reader, .ref a0_refusals, .ref a0_bestPack])), (a0_now, .inr (0, [.ref a0_now_counts, .ref a0_now_roads, .ref a0_now_bridges, .ref a0_now_waggons, .ref a0_now_parts, .ref a0_now_settings, .ref a0_now_trip, .int 0])), (a0_now_counts, .inl (E 0, 4, .inl (fun _ => 0)))]) [0, 1, 2] rfl) hG hS (va_recv hK hP (ci := 6) (q0 := 0) rfl rfl) rfl hl.1 rfl (Nat.le_of_ble_eq_true rfl) dX6_says_56 ⟨Nat.le_of_ble_eq_true rfl, Nat.le_of_ble_eq_true rfl⟩ ?_
      refine lv_if_ne (tgt := 69) hx hb dX6_says_59 (by decide) (fun c => absurd (show (0 : Int32) = 0 from by decide) c) (fun _ => ?_)
      refine lv_aload_n hx hb dX6_says_62 rfl (lv_at hl 1 rfl) ?_
      refine lv_bipush (v := (-4)) hx hb dX6_says_63 (by decide) ?_
      refine oh_mV (As := [.int (-4)]) (rest := []) (wr := [(a0_now, .inr (0, [.ref a0_now_counts, .ref a0_now_roads, .ref a0_now_bridges, .ref a0_now_waggons, .ref a0_now_parts, .ref a0_now_settings, .ref a0_now_trip, .int 0])), (a0_now_counts, .inl (E 0, 4, .inl (fun _ => 0))), (a0_shelves, .inr (3, [.ref a0_shelves_held, .ref a0_shelves_size, .ref a0_shelves_cells])), (a0_shelves_held, .inl (E 0, 8, .inl (fun _ => (-1))))]) ⟨hx, hb, hml, hown, htg⟩ (c_X6_refuse l D E G s.heap.size a0 (-4) a0_now a0_kept a0_ways a0_shelves a0_tape a0_reader a0_refusals a0_bestPack) (cwV 1 htg (oh_gV q_296 q_298 q_0 q_66 q_299) rfl rfl rfl pdVX6_refuse ⟨Nat.le_of_ble_eq_true rfl, Nat.le_of_ble_eq_true rfl⟩) hK hP hD hG hS hA [0, 5] [1, 2, 3, 4] rfl rfl (by decide) (by decide) (by decide) (va_recv hK hP (ci := 6) (q0 := 0) rfl rfl) rfl hl.1 rfl (Nat.le_of_ble_eq_true rfl) dX6_says_65 ⟨Nat.le_of_ble_eq_true rfl, Nat.le_of_ble_eq_true rfl⟩ (fun r_2 u H locs hw hP hD hS => ?_)
      subst hw
      have hP : va_P D vwCl [(a0_now, .inr (0, [.ref a0_now_counts, .ref a0_now_roads, .ref a0_now_bridges, .ref a0_now_waggons, .ref a0_now_parts, .ref a0_now_settings, .ref a0_now_trip, .int 0])), (a0_now_counts, .inl (E 0, 4, .inl (fun _ => 0))), (a0_shelves, .inr (3, [.ref a0_shelves_held, .ref a0_shelves_size, .ref a0_shelves_cells])), (a0_shelves_held, .inl (E 0, 8, .inl (fun _ => (-1)))), (a0, .inr (6, [.ref a0_now, .ref a0_kept, .int 0, .ref a0_ways, .ref a0_shelves, .ref a0_tape, .ref a0_reader, .ref a0_refusals, .ref a0_bestPack]))] H := hP
      have hD : va_D A [(a0_now, .inr (0, [.ref a0_now_counts, .ref a0_now_roads, .ref a0_now_bridges, .ref a0_now_waggons, .ref a0_now_parts, .ref a0_now_settings, .ref a0_now_trip, .int 0])), (a0_now_counts, .inl (E 0, 4, .inl (fun _ => 0))), (a0_shelves, .inr (3, [.ref a0_shelves_held, .ref a0_shelves_size, .ref a0_shelves_cells])), (a0_shelves_held, .inl (E 0, 8, .inl (fun _ => (-1)))), (a0, .inr (6, [.ref a0_now, .ref a0_kept, .int 0, .ref a0_ways, .ref a0_shelves, .ref a0_tape, .ref a0_reader, .ref a0_refusals, .ref a0_bestPack]))] := hD
      refine W.widen (k := 0) (n := 0) (Nat.le_refl _) (Nat.le_refl _) ?_
      refine W.widen (k := 0) (n := 0) (Nat.le_of_ble_eq_true rfl) (Nat.le_of_ble_eq_true rfl) ?_
      exact W.iret (v := (-4)) hx hb hr (fun t ht hW => ⟨⟨(-4), (), rfl, by unfold fX6_says; rw [if_neg c_1, if_neg c_2], ⟨by rw [ht]; exact hP.sub [] rfl, hD.sub [] (by decide) rfl⟩⟩, hS.F ht⟩) hS.2.2 dX6_says_68
    · refine lv_aload_n hx hb dX6_says_16 rfl (lv_at hl 0 rfl) ?_
      refine lv_bipush (v := (-2)) hx hb dX6_says_17 (by decide) ?_
      refine oh_mV (As := [.int (-2)]) (rest := []) (wr := [(a0_now, .inr (0, [.ref a0_now_counts, .ref a0_now_roads, .ref a0_now_bridges, .ref a0_now_waggons, .ref a0_now_parts, .ref a0_now_settings, .ref a0_now_trip, .int 0])), (a0_now_counts, .inl (E 0, 4, .inl (fun _ => 0))), (a0_shelves, .inr (3, [.ref a0_shelves_held, .ref a0_shelves_size, .ref a0_shelves_cells])), (a0_shelves_held, .inl (E 0, 8, .inl (fun _ => (-1))))]) ⟨hx, hb, hml, hown, htg⟩ (c_X6_refuse l D E G s.heap.size a0 (-2) a0_now a0_kept a0_ways a0_shelves a0_tape a0_reader a0_refusals a0_bestPack) (cwV 1 htg (oh_gV q_296 q_298 q_0 q_66 q_299) rfl rfl rfl pdVX6_refuse ⟨Nat.le_of_ble_eq_true rfl, Nat.le_of_ble_eq_true rfl⟩) hK hP hD hG hS hA [0, 5] [1, 2, 3, 4] rfl rfl (by decide) (by decide) (by decide) (va_recv hK hP (ci := 6) (q0 := 0) rfl rfl) rfl hl.1 rfl (Nat.le_of_ble_eq_true rfl) dX6_says_19 ⟨Nat.le_of_ble_eq_true rfl, Nat.le_of_ble_eq_true rfl⟩ (fun r_3 u H locs hw hP hD hS => ?_)
      subst hw
      have hP : va_P D vwCl [(a0_now, .inr (0, [.ref a0_now_counts, .ref a0_now_roads, .ref a0_now_bridges, .ref a0_now_waggons, .ref a0_now_parts, .ref a0_now_settings, .ref a0_now_trip, .int 0])), (a0_now_counts, .inl (E 0, 4, .inl (fun _ => 0))), (a0_shelves, .inr (3, [.ref a0_shelves_held, .ref a0_shelves_size, .ref a0_shelves_cells])), (a0_shelves_held, .inl (E 0, 8, .inl (fun _ => (-1)))), (a0, .inr (6, [.ref a0_now, .ref a0_kept, .int 0, .ref a0_ways, .ref a0_shelves, .ref a0_tape, .ref a0_reader, .ref a0_refusals, .ref a0_bestPack]))] H := hP
      have hD : va_D A [(a0_now, .inr (0, [.ref a0_now_counts, .ref a0_now_roads, .ref a0_now_bridges, .ref a0_now_waggons, .ref a0_now_parts, .ref a0_now_settings, .ref a0_now_trip, .int 0])), (a0_now_counts, .inl (E 0, 4, .inl (fun _ => 0))), (a0_shelves, .inr (3, [.ref a0_shelves_held, .ref a0_shelves_size, .ref a0_shelves_cells])), (a0_shelves_held, .inl (E 0, 8, .inl (fun _ => (-1)))), (a0, .inr (6, [.ref a0_now, .ref a0_kept, .int 0, .ref a0_ways, .ref a0_shelves, .ref a0_tape, .ref a0_reader, .ref a0_refusals, .ref a0_bestPack]))] := hD
      refine W.widen (k := 0) (n := 0) (Nat.le_refl _) (Nat.le_refl _) ?_
      refine W.widen (k := 0) (n := 0) (Nat.le_of_ble_eq_true rfl) (Nat.le_of_ble_eq_true rfl) ?_
      exact W.iret (v := (-2)) hx hb hr (fun t ht hW => ⟨⟨(-2), (), rfl, by unfold fX6_says; rw [if_neg c_1, if_pos c_2], ⟨by rw [ht]; exact hP.sub [] rfl, hD.sub [] (by decide) rfl⟩⟩, hS.F ht⟩) hS.2.2 dX6_says_22
set_option maxHeartbeats 4000000 in
set_option maxRecDepth 100000 in
theorem c_X0_addRoad (l : Launch) (D : va_G) (E : Nat → ClassId) (G : Nat → Nat) (sz : Nat) (a0 : Nat) (v_a : Int32) (v_b : Int32) (v_c : Int32) (v_d : Int32) (v_e : Int32) (v_f : Int32) (a0_counts : Nat) (a0_roads : Nat) (a0_bridges : Nat) (a0_waggons : Nat) (a0_parts : Nat) (a0_settings : Nat) (a0_trip : Nat) : Met l yX0_addRoad (oh_w yX0_addRoad cX0_addRoad 8 (some .int)) ({ frames := 0, cells := 0, slots := 0, locals := 0 }) (oh_Pm D E G [.ref a0, .int v_a, .int v_b, .int v_c, .int v_d, .int v_e, .int v_f] [(a0, .inr (0, [.ref a0_counts, .ref a0_roads, .ref a0_bridges, .ref a0_waggons, .ref a0_parts, .ref a0_settings, .ref a0_trip, .int 0])), (a0_counts, .inl (E 0, 4, .inl (fun _ => 0))), (a0_roads, .inl (E 0, 168, .inl (fun _ => 0)))] sz) (va_Qi (fun r (_ : Unit) => r = 0) (oh_B D (va_A [(a0, .inr (0, [.ref a0_counts, .ref a0_roads, .ref a0_bridges, .ref a0_waggons, .ref a0_parts, .ref a0_settings, .ref a0_trip, .int 0])), (a0_counts, .inl (E 0, 4, .inl (fun _ => 0))), (a0_roads, .inl (E 0, 168, .inl (fun _ => 0)))] sz) (fun _ => [])) (va_A [(a0, .inr (0, [.ref a0_counts, .ref a0_roads, .ref a0_bridges, .ref a0_waggons, .ref a0_parts, .ref a0_settings, .ref a0_trip, .int 0])), (a0_counts, .inl (E 0, 4, .inl (fun _ => 0))), (a0_roads, .inl (E 0, 168, .inl (fun _ => 0)))] sz)) 0 0 (va_A [(a0, .inr (0, [.ref a0_counts, .ref a0_roads, .ref a0_bridges, .ref a0_waggons, .ref a0_parts, .ref a0_settings, .ref a0_trip, .int 0])), (a0_counts, .inl (E 0, 4, .inl (fun _ => 0))), (a0_roads, .inl (E 0, 168, .inl (fun _ => 0)))] sz) := by
  refine Met.ofW (cc := cX0_addRoad) (maxL := 8) (ret := (some .int)) (by decide) rfl ?_
  intro p e s m args below meth c s₁ B hml hv
  obtain ⟨rfl, hsz, hP, hK, hD0, hG⟩ := hv
  have hx := B.exec
  have hb := B.bytes
  have hr := B.returns
  have hts := atoms_spec (ws := (oh_w yX0_addRoad cX0_addRoad 8 (some .int))) B.pre
  have htg : ∀ w ∈ oh_t, w.before _ s = true := fun w h => hts w (List.mem_cons_of_mem _ h)
  have hown : s.vm.findClass RX0 = some m.cls := findClass_of_methodNamed B.named
  have hlocks := B.notSynchronized
  subst hsz
  have hD := hD0.self (sz := s.heap.size)
  generalize hAe : va_A [(a0, .inr (0, [.ref a0_counts, .ref a0_roads, .ref a0_bridges, .ref a0_waggons, .ref a0_parts, .ref a0_settings, .ref a0_trip, .int 0])), (a0_counts, .inl (E 0, 4, .inl (fun _ => 0))), (a0_roads, .inl (E 0, 168, .inl (fun _ => 0)))] s.heap.size = A at hD hG ⊢
  have hA : ∀ q : Nat, s.heap.size ≤ q → A q := fun q h => by rw [← hAe]; exact Or.inr h
  have hS : va_S A s.heap s.heap [] := va_S.rf
  have hP : va_P D vwCl [(a0, .inr (0, [.ref a0_counts, .ref a0_roads, .ref a0_bridges, .ref a0_waggons, .ref a0_parts, .ref a0_settings, .ref a0_trip, .int 0])), (a0_counts, .inl (E 0, 4, .inl (fun _ => 0))), (a0_roads, .inl (E 0, 168, .inl (fun _ => 0)))] s.heap := hP
  have hl := lv_entry ([.ref a0, .int v_a, .int v_b, .int v_c, .int v_d, .int v_e, .int v_f]) (n := 8) (Nat.le_of_ble_eq_true rfl)
  rw [lg_entry_eq]
  generalize (lg_sl ([.ref a0, .int v_a, .int v_b, .int v_c, .int v_d, .int v_e, .int v_f]) ++ List.replicate (8 - (lg_sl ([.ref a0, .int v_a, .int v_b, .int v_c, .int v_d, .int v_e, .int v_f])).length) Slot.unset).toArray = ls at hl ⊢
  have hl : lv_has ls 8 [(0, .ref a0), (1, .int v_a), (2, .int v_b), (3, .int v_c), (4, .int v_d), (5, .int v_e), (6, .int v_f)] := hl
  refine lv_aload_n hx hb dX0_addRoad_0 rfl (lv_at hl 0 rfl) ?_
  refine va_get (D := D) (ci := 0) (v := .ref a0_counts) (C := RX0) (T := TX0) (N := 8) hx hb htg ig_0 hown hK hP 0 rfl rfl 0 (by decide) (htg _ q_97) (fun _ h9 => h9) rfl dX0_addRoad_1 ?_
  refine lv_iconst (v := 0) hx hb dX0_addRoad_4 (by decide) ?_
  refine va_iald hx hb hK hP 1 0 rfl rfl (show vp_in 0 4 by unfold vp_in; decide) dX0_addRoad_5 ?_
  refine oh_nrm (v := 0) (by decide) ?_
  refine lv_bipush (v := 7) hx hb dX0_addRoad_6 (by decide) ?_
  refine lv_imul hx hb dX0_addRoad_8 ?_
  refine oh_nrm (v := 0) (by decide) ?_
  refine lv_istore (lv' := [(7, .int 0), (0, .ref a0), (1, .int v_a), (2, .int v_b), (3, .int v_c), (4, .int v_d), (5, .int v_e), (6, .int v_f)]) hx hb dX0_addRoad_9 hl (by decide) rfl (fun ls hl => ?_)
  refine lv_aload_n hx hb dX0_addRoad_11 rfl (lv_at hl 1 rfl) ?_
  refine va_get (D := D) (ci := 0) (v := .ref a0_roads) (C := RX0) (T := TX0) (N := 8) hx hb htg ig_0 hown hK hP 0 rfl rfl 1 (by decide) (htg _ q_101) (fun _ h9 => h9) rfl dX0_addRoad_12 ?_
  refine lv_iload hx hb dX0_addRoad_15 (lv_at hl 0 rfl) ?_
  refine lv_iconst (v := 0) hx hb dX0_addRoad_17 (by decide) ?_
  refine lv_iadd hx hb dX0_addRoad_18 ?_
  refine oh_nrm (v := 0) (by decide) ?_
  refine lv_iload_n hx hb dX0_addRoad_19 rfl (lv_at hl 2 rfl) ?_
  refine va_iast hx hb hK hP hD hS 2 0 rfl rfl (show vp_in 0 168 by unfold vp_in; decide) dX0_addRoad_20 (fun H locs hP hD hS => ?_)
  have hP : va_P D vwCl [(a0, .inr (0, [.ref a0_counts, .ref a0_roads, .ref a0_bridges, .ref a0_waggons, .ref a0_parts, .ref a0_settings, .ref a0_trip, .int 0])), (a0_counts, .inl (E 0, 4, .inl (fun _ => 0))), (a0_roads, .inl (E 0, 168, .inl (upd (fun _ => 0) 0 v_a)))] H := hP
  have hD : va_D A [(a0, .inr (0, [.ref a0_counts, .ref a0_roads, .ref a0_bridges, .ref a0_waggons, .ref a0_parts, .ref a0_settings, .ref a0_trip, .int 0])), (a0_counts, .inl (E 0, 4, .inl (fun _ => 0))), (a0_roads, .inl (E 0, 168, .inl (upd (fun _ => 0) 0 v_a)))] := hD
  refine lv_aload_n hx hb dX0_addRoad_21 rfl (lv_at hl 1 rfl) ?_
  refine va_get (D := D) (ci := 0) (v := .ref a0_roads) (C := RX0) (T := TX0) (N := 8) hx hb htg ig_0 hown hK hP 0 rfl rfl 1 (by decide) (htg _ q_101) (fun _ h9 => h9) rfl dX0_addRoad_22 ?_
  refine lv_iload hx hb dX0_addRoad_25 (lv_at hl 0 rfl) ?_
  refine lv_iconst (v := 1) hx hb dX0_addRoad_27 (by decide) ?_
  refine lv_iadd hx hb dX0_addRoad_28 ?_
  refine oh_nrm (v := 1) (by decide) ?_
  refine lv_iload_n hx hb dX0_addRoad_29 rfl (lv_at hl 3 rfl) ?_
  refine va_iast hx hb hK hP hD hS 2 0 rfl rfl (show vp_in 1 168 by unfold vp_in; decide) dX0_addRoad_30 (fun H locs hP hD hS => ?_)
  have hP : va_P D vwCl [(a0, .inr (0, [.ref a0_counts, .ref a0_roads, .ref a0_bridges, .ref a0_waggons, .ref a0_parts, .ref a0_settings, .ref a0_trip, .int 0])), (a0_counts, .inl (E 0, 4, .inl (fun _ => 0))), (a0_roads, .inl (E 0, 168, .inl (upd (upd (fun _ => 0) 0 v_a) 1 v_b)))] H := hP
  have hD : va_D A [(a0, .inr (0, [.ref a0_counts, .ref a0_roads, .ref a0_bridges, .ref a0_waggons, .ref a0_parts, .ref a0_settings, .ref a0_trip, .int 0])), (a0_counts, .inl (E 0, 4, .inl (fun _ => 0))), (a0_roads, .inl (E 0, 168, .inl (upd (upd (fun _ => 0) 0 v_a) 1 v_b)))] := hD
  refine lv_aload_n hx hb dX0_addRoad_31 rfl (lv_at hl 1 rfl) ?_
  refine va_get (D := D) (ci := 0) (v := .ref a0_roads) (C := RX0) (T := TX0) (N := 8) hx hb htg ig_0 hown hK hP 0 rfl rfl 1 (by decide) (htg _ q_101) (fun _ h9 => h9) rfl dX0_addRoad_32 ?_
  refine lv_iload hx hb dX0_addRoad_35 (lv_at hl 0 rfl) ?_
  refine lv_iconst (v := 2) hx hb dX0_addRoad_37 (by decide) ?_
  refine lv_iadd hx hb dX0_addRoad_38 ?_
  refine oh_nrm (v := 2) (by decide) ?_
  refine lv_iload_n hx hb dX0_addRoad_39 rfl (lv_at hl 4 rfl) ?_
  refine va_iast hx hb hK hP hD hS 2 0 rfl rfl (show vp_in 2 168 by unfold vp_in; decide) dX0_addRoad_40 (fun H locs hP hD hS => ?_)
  have hP : va_P D vwCl [(a0, .inr (0, [.ref a0_counts, .ref a0_roads, .ref a0_bridges, .ref a0_waggons, .ref a0_parts, .ref a0_settings, .ref a0_trip, .int 0])), (a0_counts, .inl (E 0, 4, .inl (fun _ => 0))), (a0_roads, .inl (E 0, 168, .inl (upd (upd (upd (fun _ => 0) 0 v_a) 1 v_b) 2 v_c)))] H := hP
  have hD : va_D A [(a0, .inr (0, [.ref a0_counts, .ref a0_roads, .ref a0_bridges, .ref a0_waggons, .ref a0_parts, .ref a0_settings, .ref a0_trip, .int 0])), (a0_counts, .inl (E 0, 4, .inl (fun _ => 0))), (a0_roads, .inl (E 0, 168, .inl (upd (upd (upd (fun _ => 0) 0 v_a) 1 v_b) 2 v_c)))] := hD
  refine lv_aload_n hx hb dX0_addRoad_41 rfl (lv_at hl 1 rfl) ?_
  refine va_get (D := D) (ci := 0) (v := .ref a0_roads) (C := RX0) (T := TX0) (N := 8) hx hb htg ig_0 hown hK hP 0 rfl rfl 1 (by decide) (htg _ q_101) (fun _ h9 => h9) rfl dX0_addRoad_42 ?_
  refine lv_iload hx hb dX0_addRoad_45 (lv_at hl 0 rfl) ?_
  refine lv_iconst (v := 3) hx hb dX0_addRoad_47 (by decide) ?_
  refine lv_iadd hx hb dX0_addRoad_48 ?_
  refine oh_nrm (v := 3) (by decide) ?_
  refine lv_iload hx hb dX0_addRoad_49 (lv_at hl 5 rfl) ?_
  refine va_iast hx hb hK hP hD hS 2 0 rfl rfl (show vp_in 3 168 by unfold vp_in; decide) dX0_addRoad_51 (fun H locs hP hD hS => ?_)
  have hP : va_P D vwCl [(a0, .inr (0, [.ref a0_counts, .ref a0_roads, .ref a0_bridges, .ref a0_waggons, .ref a0_parts, .ref a0_settings, .ref a0_trip, .int 0])), (a0_counts, .inl (E 0, 4, .inl (fun _ => 0))), (a0_roads, .inl (E 0, 168, .inl (upd (upd (upd (upd (fun _ => 0) 0 v_a) 1 v_b) 2 v_c) 3 v_d)))] H := hP
  have hD : va_D A [(a0, .inr (0, [.ref a0_counts, .ref a0_roads, .ref a0_bridges, .ref a0_waggons, .ref a0_parts, .ref a0_settings, .ref a0_trip, .int 0])), (a0_counts, .inl (E 0, 4, .inl (fun _ => 0))), (a0_roads, .inl (E 0, 168, .inl (upd (upd (upd (upd (fun _ => 0) 0 v_a) 1 v_b) 2 v_c) 3 v_d)))] := hD
  refine lv_aload_n hx hb dX0_addRoad_52 rfl (lv_at hl 1 rfl) ?_
  refine va_get (D := D) (ci := 0) (v := .ref a0_roads) (C := RX0) (T := TX0) (N := 8) hx hb htg ig_0 hown hK hP 0 rfl rfl 1 (by decide) (htg _ q_101) (fun _ h9 => h9) rfl dX0_addRoad_53 ?_
  refine lv_iload hx hb dX0_addRoad_56 (lv_at hl 0 rfl) ?_
  refine lv_iconst (v := 4) hx hb dX0_addRoad_58 (by decide) ?_
  refine lv_iadd hx hb dX0_addRoad_59 ?_
  refine oh_nrm (v := 4) (by decide) ?_
  refine lv_iload hx hb dX0_addRoad_60 (lv_at hl 6 rfl) ?_
  refine va_iast hx hb hK hP hD hS 2 0 rfl rfl (show vp_in 4 168 by unfold vp_in; decide) dX0_addRoad_62 (fun H locs hP hD hS => ?_)
  have hP : va_P D vwCl [(a0, .inr (0, [.ref a0_counts, .ref a0_roads, .ref a0_bridges, .ref a0_waggons, .ref a0_parts, .ref a0_settings, .ref a0_trip, .int 0])), (a0_counts, .inl (E 0, 4, .inl (fun _ => 0))), (a0_roads, .inl (E 0, 168, .inl (upd (upd (upd (upd (upd (fun _ => 0) 0 v_a) 1 v_b) 2 v_c) 3 v_d) 4 v_e)))] H := hP
  have hD : va_D A [(a0, .inr (0, [.ref a0_counts, .ref a0_roads, .ref a0_bridges, .ref a0_waggons, .ref a0_parts, .ref a0_settings, .ref a0_trip, .int 0])), (a0_counts, .inl (E 0, 4, .inl (fun _ => 0))), (a0_roads, .inl (E 0, 168, .inl (upd (upd (upd (upd (upd (fun _ => 0) 0 v_a) 1 v_b) 2 v_c) 3 v_d) 4 v_e)))] := hD
  refine lv_aload_n hx hb dX0_addRoad_63 rfl (lv_at hl 1 rfl) ?_
  refine va_get (D := D) (ci := 0) (v := .ref a0_roads) (C := RX0) (T := TX0) (N := 8) hx hb htg ig_0 hown hK hP 0 rfl rfl 1 (by decide) (htg _ q_101) (fun _ h9 => h9) rfl dX0_addRoad_64 ?_
  refine lv_iload hx hb dX0_addRoad_67 (lv_at hl 0 rfl) ?_
  refine lv_iconst (v := 5) hx hb dX0_addRoad_69 (by decide) ?_
  refine lv_iadd hx hb dX0_addRoad_70 ?_
  refine oh_nrm (v := 5) (by decide) ?_
  refine lv_iload hx hb dX0_addRoad_71 (lv_at hl 7 rfl) ?_
  refine va_iast hx hb hK hP hD hS 2 0 rfl rfl (show vp_in 5 168 by unfold vp_in; decide) dX0_addRoad_73 (fun H locs hP hD hS => ?_)
  have hP : va_P D vwCl [(a0, .inr (0, [.ref a0_counts, .ref a0_roads, .ref a0_bridges, .ref a0_waggons, .ref a0_parts, .ref a0_settings, .ref a0_trip, .int 0])), (a0_counts, .inl (E 0, 4, .inl (fun _ => 0))), (a0_roads, .inl (E 0, 168, .inl (upd (upd (upd (upd (upd (upd (fun _ => 0) 0 v_a) 1 v_b) 2 v_c) 3 v_d) 4 v_e) 5 v_f)))] H := hP
  have hD : va_D A [(a0, .inr (0, [.ref a0_counts, .ref a0_roads, .ref a0_bridges, .ref a0_waggons, .ref a0_parts, .ref a0_settings, .ref a0_trip, .int 0])), (a0_counts, .inl (E 0, 4, .inl (fun _ => 0))), (a0_roads, .inl (E 0, 168, .inl (upd (upd (upd (upd (upd (upd (fun _ => 0) 0 v_a) 1 v_b) 2 v_c) 3 v_d) 4 v_e) 5 v_f)))] := hD
  refine lv_aload_n hx hb dX0_addRoad_74 rfl (lv_at hl 1 rfl) ?_
  refine va_get (D := D) (ci := 0) (v := .ref a0_roads) (C := RX0) (T := TX0) (N := 8) hx hb htg ig_0 hown hK hP 0 rfl rfl 1 (by decide) (htg _ q_101) (fun _ h9 => h9) rfl dX0_addRoad_75 ?_
  refine lv_iload hx hb dX0_addRoad_78 (lv_at hl 0 rfl) ?_
  refine lv_bipush (v := 6) hx hb dX0_addRoad_80 (by decide) ?_
  refine lv_iadd hx hb dX0_addRoad_82 ?_
  refine oh_nrm (v := 6) (by decide) ?_
  refine lv_iconst (v := 0) hx hb dX0_addRoad_83 (by decide) ?_
  refine va_iast hx hb hK hP hD hS 2 0 rfl rfl (show vp_in 6 168 by unfold vp_in; decide) dX0_addRoad_84 (fun H locs hP hD hS => ?_)
  have hP : va_P D vwCl [(a0, .inr (0, [.ref a0_counts, .ref a0_roads, .ref a0_bridges, .ref a0_waggons, .ref a0_parts, .ref a0_settings, .ref a0_trip, .int 0])), (a0_counts, .inl (E 0, 4, .inl (fun _ => 0))), (a0_roads, .inl (E 0, 168, .inl (upd (upd (upd (upd (upd (upd (upd (fun _ => 0) 0 v_a) 1 v_b) 2 v_c) 3 v_d) 4 v_e) 5 v_f) 6 0)))] H := hP
  have hD : va_D A [(a0, .inr (0, [.ref a0_counts, .ref a0_roads, .ref a0_bridges, .ref a0_waggons, .ref a0_parts, .ref a0_settings, .ref a0_trip, .int 0])), (a0_counts, .inl (E 0, 4, .inl (fun _ => 0))), (a0_roads, .inl (E 0, 168, .inl (upd (upd (upd (upd (upd (upd (upd (fun _ => 0) 0 v_a) 1 v_b) 2 v_c) 3 v_d) 4 v_e) 5 v_f) 6 0)))] := hD
  refine lv_aload_n hx hb dX0_addRoad_85 rfl (lv_at hl 1 rfl) ?_
  refine va_get (D := D) (ci := 0) (v := .ref a0_counts) (C := RX0) (T := TX0) (N := 8) hx hb htg ig_0 hown hK hP 0 rfl rfl 0 (by decide) (htg _ q_97) (fun _ h9 => h9) rfl dX0_addRoad_86 ?_
  refine lv_iconst (v := 0) hx hb dX0_addRoad_89 (by decide) ?_
  refine lv_dup2_11 hx hb dX0_addRoad_90 rfl rfl ?_
  refine va_iald hx hb hK hP 1 0 rfl rfl (show vp_in 0 4 by unfold vp_in; decide) dX0_addRoad_91 ?_
  refine oh_nrm (v := 0) (by decide) ?_
  refine lv_dup_x2 hx hb dX0_addRoad_92 rfl rfl rfl ?_
  refine lv_iconst (v := 1) hx hb dX0_addRoad_93 (by decide) ?_
  refine lv_iadd hx hb dX0_addRoad_94 ?_
  refine oh_nrm (v := 1) (by decide) ?_
  refine va_iast hx hb hK hP hD hS 1 0 rfl rfl (show vp_in 0 4 by unfold vp_in; decide) dX0_addRoad_95 (fun H locs hP hD hS => ?_)
  have hP : va_P D vwCl [(a0, .inr (0, [.ref a0_counts, .ref a0_roads, .ref a0_bridges, .ref a0_waggons, .ref a0_parts, .ref a0_settings, .ref a0_trip, .int 0])), (a0_counts, .inl (E 0, 4, .inl (upd (fun _ => 0) 0 1))), (a0_roads, .inl (E 0, 168, .inl (upd (upd (upd (upd (upd (upd (upd (fun _ => 0) 0 v_a) 1 v_b) 2 v_c) 3 v_d) 4 v_e) 5 v_f) 6 0)))] H := hP
  have hD : va_D A [(a0, .inr (0, [.ref a0_counts, .ref a0_roads, .ref a0_bridges, .ref a0_waggons, .ref a0_parts, .ref a0_settings, .ref a0_trip, .int 0])), (a0_counts, .inl (E 0, 4, .inl (upd (fun _ => 0) 0 1))), (a0_roads, .inl (E 0, 168, .inl (upd (upd (upd (upd (upd (upd (upd (fun _ => 0) 0 v_a) 1 v_b) 2 v_c) 3 v_d) 4 v_e) 5 v_f) 6 0)))] := hD
  refine W.widen (k := 0) (n := 0) (Nat.le_of_ble_eq_true rfl) (Nat.le_of_ble_eq_true rfl) ?_
  exact W.iret (v := 0) hx hb hr (fun t ht hW => ⟨⟨0, (), rfl, rfl, ⟨by rw [ht]; exact hP.sub [] rfl, hD.sub [] (by decide) rfl⟩⟩, hS.F ht⟩) hS.2.2 dX0_addRoad_96
set_option maxHeartbeats 4000000 in
set_option maxRecDepth 100000 in
theorem c_X0_addWaggon (l : Launch) (D : va_G) (E : Nat → ClassId) (G : Nat → Nat) (sz : Nat) (a0 : Nat) (v_a : Int32) (v_b : Int32) (v_c : Int32) (a0_counts : Nat) (a0_roads : Nat) (a0_bridges : Nat) (a0_waggons : Nat) (a0_parts : Nat) (a0_settings : Nat) (a0_trip : Nat) : Met l yX0_addWaggon (oh_w yX0_addWaggon cX0_addWaggon 5 (some .int)) ({ frames := 0, cells := 0, slots := 0, locals := 0 }) (oh_Pm D E G [.ref a0, .int v_a, .int v_b, .int v_c] [(a0, .inr (0, [.ref a0_counts, .ref a0_roads, .ref a0_bridges, .ref a0_waggons, .ref a0_parts, .ref a0_settings, .ref a0_trip, .int 0])), (a0_counts, .inl (E 0, 4, .inl (fun _ => 0))), (a0_waggons, .inl (E 0, 15, .inl (fun _ => 0)))] sz) (va_Qi (fun r (_ : Unit) => r = 0) (oh_B D (va_A [(a0, .inr (0, [.ref a0_counts, .ref a0_roads, .ref a0_bridges, .ref a0_waggons, .ref a0_parts, .ref a0_settings, .ref a0_trip, .int 0])), (a0_counts, .inl (E 0, 4, .inl (fun _ => 0))), (a0_waggons, .inl (E 0, 15, .inl (fun _ => 0)))] sz) (fun _ => [])) (va_A [(a0, .inr (0, [.ref a0_counts, .ref a0_roads, .ref a0_bridges, .ref a0_waggons, .ref a0_parts, .ref a0_settings, .ref a0_trip, .int 0])), (a0_counts, .inl (E 0, 4, .inl (fun _ => 0))), (a0_waggons, .inl (E 0, 15, .inl (fun _ => 0)))] sz)) 0 0 (va_A [(a0, .inr (0, [.ref a0_counts, .ref a0_roads, .ref a0_bridges, .ref a0_waggons, .ref a0_parts, .ref a0_settings, .ref a0_trip, .int 0])), (a0_counts, .inl (E 0, 4, .inl (fun _ => 0))), (a0_waggons, .inl (E 0, 15, .inl (fun _ => 0)))] sz) := by
  refine Met.ofW (cc := cX0_addWaggon) (maxL := 5) (ret := (some .int)) (by decide) rfl ?_
  intro p e s m args below meth c s₁ B hml hv
  obtain ⟨rfl, hsz, hP, hK, hD0, hG⟩ := hv
  have hx := B.exec
  have hb := B.bytes
  have hr := B.returns
  have hts := atoms_spec (ws := (oh_w yX0_addWaggon cX0_addWaggon 5 (some .int))) B.pre
  have htg : ∀ w ∈ oh_t, w.before _ s = true := fun w h => hts w (List.mem_cons_of_mem _ h)
  have hown : s.vm.findClass RX0 = some m.cls := findClass_of_methodNamed B.named
  have hlocks := B.notSynchronized
  subst hsz
  have hD := hD0.self (sz := s.heap.size)
  generalize hAe : va_A [(a0, .inr (0, [.ref a0_counts, .ref a0_roads, .ref a0_bridges, .ref a0_waggons, .ref a0_parts, .ref a0_settings, .ref a0_trip, .int 0])), (a0_counts, .inl (E 0, 4, .inl (fun _ => 0))), (a0_waggons, .inl (E 0, 15, .inl (fun _ => 0)))] s.heap.size = A at hD hG ⊢
  have hA : ∀ q : Nat, s.heap.size ≤ q → A q := fun q h => by rw [← hAe]; exact Or.inr h
  have hS : va_S A s.heap s.heap [] := va_S.rf
  have hP : va_P D vwCl [(a0, .inr (0, [.ref a0_counts, .ref a0_roads, .ref a0_bridges, .ref a0_waggons, .ref a0_parts, .ref a0_settings, .ref a0_trip, .int 0])), (a0_counts, .inl (E 0, 4, .inl (fun _ => 0))), (a0_waggons, .inl (E 0, 15, .inl (fun _ => 0)))] s.heap := hP
  have hl := lv_entry ([.ref a0, .int v_a, .int v_b, .int v_c]) (n := 5) (Nat.le_of_ble_eq_true rfl)
  rw [lg_entry_eq]
  generalize (lg_sl ([.ref a0, .int v_a, .int v_b, .int v_c]) ++ List.replicate (5 - (lg_sl ([.ref a0, .int v_a, .int v_b, .int v_c])).length) Slot.unset).toArray = ls at hl ⊢
  have hl : lv_has ls 5 [(0, .ref a0), (1, .int v_a), (2, .int v_b), (3, .int v_c)] := hl
  refine lv_aload_n hx hb dX0_addWaggon_0 rfl (lv_at hl 0 rfl) ?_
  refine va_get (D := D) (ci := 0) (v := .ref a0_counts) (C := RX0) (T := TX0) (N := 8) hx hb htg ig_0 hown hK hP 0 rfl rfl 0 (by decide) (htg _ q_97) (fun _ h9 => h9) rfl dX0_addWaggon_1 ?_
  refine lv_iconst (v := 2) hx hb dX0_addWaggon_4 (by decide) ?_
  refine va_iald hx hb hK hP 1 0 rfl rfl (show vp_in 2 4 by unfold vp_in; decide) dX0_addWaggon_5 ?_
  refine oh_nrm (v := 0) (by decide) ?_
  refine lv_iconst (v := 3) hx hb dX0_addWaggon_6 (by decide) ?_
  refine lv_imul hx hb dX0_addWaggon_7 ?_
  refine oh_nrm (v := 0) (by decide) ?_
  refine lv_istore (lv' := [(4, .int 0), (0, .ref a0), (1, .int v_a), (2, .int v_b), (3, .int v_c)]) hx hb dX0_addWaggon_8 hl (by decide) rfl (fun ls hl => ?_)
  refine lv_aload_n hx hb dX0_addWaggon_10 rfl (lv_at hl 1 rfl) ?_
  refine va_get (D := D) (ci := 0) (v := .ref a0_waggons) (C := RX0) (T := TX0) (N := 8) hx hb htg ig_0 hown hK hP 0 rfl rfl 3 (by decide) (htg _ q_104) (fun _ h9 => h9) rfl dX0_addWaggon_11 ?_
  refine lv_iload hx hb dX0_addWaggon_14 (lv_at hl 0 rfl) ?_
  refine lv_iconst (v := 0) hx hb dX0_addWaggon_16 (by decide) ?_
  refine lv_iadd hx hb dX0_addWaggon_17 ?_
  refine oh_nrm (v := 0) (by decide) ?_
  refine lv_iload_n hx hb dX0_addWaggon_18 rfl (lv_at hl 2 rfl) ?_
  refine va_iast hx hb hK hP hD hS 2 0 rfl rfl (show vp_in 0 15 by unfold vp_in; decide) dX0_addWaggon_19 (fun H locs hP hD hS => ?_)
  have hP : va_P D vwCl [(a0, .inr (0, [.ref a0_counts, .ref a0_roads, .ref a0_bridges, .ref a0_waggons, .ref a0_parts, .ref a0_settings, .ref a0_trip, .int 0])), (a0_counts, .inl (E 0, 4, .inl (fun _ => 0))), (a0_waggons, .inl (E 0, 15, .inl (upd (fun _ => 0) 0 v_a)))] H := hP
  have hD : va_D A [(a0, .inr (0, [.ref a0_counts, .ref a0_roads, .ref a0_bridges, .ref a0_waggons, .ref a0_parts, .ref a0_settings, .ref a0_trip, .int 0])), (a0_counts, .inl (E 0, 4, .inl (fun _ => 0))), (a0_waggons, .inl (E 0, 15, .inl (upd (fun _ => 0) 0 v_a)))] := hD
  refine lv_aload_n hx hb dX0_addWaggon_20 rfl (lv_at hl 1 rfl) ?_
  refine va_get (D := D) (ci := 0) (v := .ref a0_waggons) (C := RX0) (T := TX0) (N := 8) hx hb htg ig_0 hown hK hP 0 rfl rfl 3 (by decide) (htg _ q_104) (fun _ h9 => h9) rfl dX0_addWaggon_21 ?_
  refine lv_iload hx hb dX0_addWaggon_24 (lv_at hl 0 rfl) ?_
  refine lv_iconst (v := 1) hx hb dX0_addWaggon_26 (by decide) ?_
  refine lv_iadd hx hb dX0_addWaggon_27 ?_
  refine oh_nrm (v := 1) (by decide) ?_
  refine lv_iload_n hx hb dX0_addWaggon_28 rfl (lv_at hl 3 rfl) ?_
  refine va_iast hx hb hK hP hD hS 2 0 rfl rfl (show vp_in 1 15 by unfold vp_in; decide) dX0_addWaggon_29 (fun H locs hP hD hS => ?_)
  have hP : va_P D vwCl [(a0, .inr (0, [.ref a0_counts, .ref a0_roads, .ref a0_bridges, .ref a0_waggons, .ref a0_parts, .ref a0_settings, .ref a0_trip, .int 0])), (a0_counts, .inl (E 0, 4, .inl (fun _ => 0))), (a0_waggons, .inl (E 0, 15, .inl (upd (upd (fun _ => 0) 0 v_a) 1 v_b)))] H := hP
  have hD : va_D A [(a0, .inr (0, [.ref a0_counts, .ref a0_roads, .ref a0_bridges, .ref a0_waggons, .ref a0_parts, .ref a0_settings, .ref a0_trip, .int 0])), (a0_counts, .inl (E 0, 4, .inl (fun _ => 0))), (a0_waggons, .inl (E 0, 15, .inl (upd (upd (fun _ => 0) 0 v_a) 1 v_b)))] := hD
  refine lv_aload_n hx hb dX0_addWaggon_30 rfl (lv_at hl 1 rfl) ?_
  refine va_get (D := D) (ci := 0) (v := .ref a0_waggons) (C := RX0) (T := TX0) (N := 8) hx hb htg ig_0 hown hK hP 0 rfl rfl 3 (by decide) (htg _ q_104) (fun _ h9 => h9) rfl dX0_addWaggon_31 ?_
  refine lv_iload hx hb dX0_addWaggon_34 (lv_at hl 0 rfl) ?_
  refine lv_iconst (v := 2) hx hb dX0_addWaggon_36 (by decide) ?_
  refine lv_iadd hx hb dX0_addWaggon_37 ?_
  refine oh_nrm (v := 2) (by decide) ?_
  refine lv_iload_n hx hb dX0_addWaggon_38 rfl (lv_at hl 4 rfl) ?_
  refine va_iast hx hb hK hP hD hS 2 0 rfl rfl (show vp_in 2 15 by unfold vp_in; decide) dX0_addWaggon_39 (fun H locs hP hD hS => ?_)
  have hP : va_P D vwCl [(a0, .inr (0, [.ref a0_counts, .ref a0_roads, .ref a0_bridges, .ref a0_waggons, .ref a0_parts, .ref a0_settings, .ref a0_trip, .int 0])), (a0_counts, .inl (E 0, 4, .inl (fun _ => 0))), (a0_waggons, .inl (E 0, 15, .inl (upd (upd (upd (fun _ => 0) 0 v_a) 1 v_b) 2 v_c)))] H := hP
  have hD : va_D A [(a0, .inr (0, [.ref a0_counts, .ref a0_roads, .ref a0_bridges, .ref a0_waggons, .ref a0_parts, .ref a0_settings, .ref a0_trip, .int 0])), (a0_counts, .inl (E 0, 4, .inl (fun _ => 0))), (a0_waggons, .inl (E 0, 15, .inl (upd (upd (upd (fun _ => 0) 0 v_a) 1 v_b) 2 v_c)))] := hD
  refine lv_aload_n hx hb dX0_addWaggon_40 rfl (lv_at hl 1 rfl) ?_
  refine va_get (D := D) (ci := 0) (v := .ref a0_counts) (C := RX0) (T := TX0) (N := 8) hx hb htg ig_0 hown hK hP 0 rfl rfl 0 (by decide) (htg _ q_97) (fun _ h9 => h9) rfl dX0_addWaggon_41 ?_
  refine lv_iconst (v := 2) hx hb dX0_addWaggon_44 (by decide) ?_
  refine lv_dup2_11 hx hb dX0_addWaggon_45 rfl rfl ?_
  refine va_iald hx hb hK hP 1 0 rfl rfl (show vp_in 2 4 by unfold vp_in; decide) dX0_addWaggon_46 ?_
  refine oh_nrm (v := 0) (by decide) ?_
  refine lv_dup_x2 hx hb dX0_addWaggon_47 rfl rfl rfl ?_
  refine lv_iconst (v := 1) hx hb dX0_addWaggon_48 (by decide) ?_
  refine lv_iadd hx hb dX0_addWaggon_49 ?_
  refine oh_nrm (v := 1) (by decide) ?_
  refine va_iast hx hb hK hP hD hS 1 0 rfl rfl (show vp_in 2 4 by unfold vp_in; decide) dX0_addWaggon_50 (fun H locs hP hD hS => ?_)
  have hP : va_P D vwCl [(a0, .inr (0, [.ref a0_counts, .ref a0_roads, .ref a0_bridges, .ref a0_waggons, .ref a0_parts, .ref a0_settings, .ref a0_trip, .int 0])), (a0_counts, .inl (E 0, 4, .inl (upd (fun _ => 0) 2 1))), (a0_waggons, .inl (E 0, 15, .inl (upd (upd (upd (fun _ => 0) 0 v_a) 1 v_b) 2 v_c)))] H := hP
  have hD : va_D A [(a0, .inr (0, [.ref a0_counts, .ref a0_roads, .ref a0_bridges, .ref a0_waggons, .ref a0_parts, .ref a0_settings, .ref a0_trip, .int 0])), (a0_counts, .inl (E 0, 4, .inl (upd (fun _ => 0) 2 1))), (a0_waggons, .inl (E 0, 15, .inl (upd (upd (upd (fun _ => 0) 0 v_a) 1 v_b) 2 v_c)))] := hD
  refine W.widen (k := 0) (n := 0) (Nat.le_of_ble_eq_true rfl) (Nat.le_of_ble_eq_true rfl) ?_
  exact W.iret (v := 0) hx hb hr (fun t ht hW => ⟨⟨0, (), rfl, rfl, ⟨by rw [ht]; exact hP.sub [] rfl, hD.sub [] (by decide) rfl⟩⟩, hS.F ht⟩) hS.2.2 dX0_addWaggon_51
set_option maxHeartbeats 4000000 in
set_option maxRecDepth 100000 in
theorem c_X0_addPart (l : Launch) (D : va_G) (E : Nat → ClassId) (G : Nat → Nat) (sz : Nat) (a0 : Nat) (v_a : Int32) (v_b : Int32) (a0_counts : Nat) (a0_roads : Nat) (a0_bridges : Nat) (a0_waggons : Nat) (a0_parts : Nat) (a0_settings : Nat) (a0_trip : Nat) : Met l yX0_addPart (oh_w yX0_addPart cX0_addPart 4 (some .int)) ({ frames := 0, cells := 0, slots := 0, locals := 0 }) (oh_Pm D E G [.ref a0, .int v_a, .int v_b] [(a0, .inr (0, [.ref a0_counts, .ref a0_roads, .ref a0_bridges, .ref a0_waggons, .ref a0_parts, .ref a0_settings, .ref a0_trip, .int 0])), (a0_counts, .inl (E 0, 4, .inl (fun _ => 0))), (a0_parts, .inl (E 0, 10, .inl (fun _ => 0)))] sz) (va_Qi (fun r (_ : Unit) => r = 0) (oh_B D (va_A [(a0, .inr (0, [.ref a0_counts, .ref a0_roads, .ref a0_bridges, .ref a0_waggons, .ref a0_parts, .ref a0_settings, .ref a0_trip, .int 0])), (a0_counts, .inl (E 0, 4, .inl (fun _ => 0))), (a0_parts, .inl (E 0, 10, .inl (fun _ => 0)))] sz) (fun _ => [])) (va_A [(a0, .inr (0, [.ref a0_counts, .ref a0_roads, .ref a0_bridges, .ref a0_waggons, .ref a0_parts, .ref a0_settings, .ref a0_trip, .int 0])), (a0_counts, .inl (E 0, 4, .inl (fun _ => 0))), (a0_parts, .inl (E 0, 10, .inl (fun _ => 0)))] sz)) 0 0 (va_A [(a0, .inr (0, [.ref a0_counts, .ref a0_roads, .ref a0_bridges, .ref a0_waggons, .ref a0_parts, .ref a0_settings, .ref a0_trip, .int 0])), (a0_counts, .inl (E 0, 4, .inl (fun _ => 0))), (a0_parts, .inl (E 0, 10, .inl (fun _ => 0)))] sz) := by
  refine Met.ofW (cc := cX0_addPart) (maxL := 4) (ret := (some .int)) (by decide) rfl ?_
  intro p e s m args below meth c s₁ B hml hv
  obtain ⟨rfl, hsz, hP, hK, hD0, hG⟩ := hv
  have hx := B.exec
  have hb := B.bytes
  have hr := B.returns
  have hts := atoms_spec (ws := (oh_w yX0_addPart cX0_addPart 4 (some .int))) B.pre
  have htg : ∀ w ∈ oh_t, w.before _ s = true := fun w h => hts w (List.mem_cons_of_mem _ h)
  have hown : s.vm.findClass RX0 = some m.cls := findClass_of_methodNamed B.named
  have hlocks := B.notSynchronized
  subst hsz
  have hD := hD0.self (sz := s.heap.size)
  generalize hAe : va_A [(a0, .inr (0, [.ref a0_counts, .ref a0_roads, .ref a0_bridges, .ref a0_waggons, .ref a0_parts, .ref a0_settings, .ref a0_trip, .int 0])), (a0_counts, .inl (E 0, 4, .inl (fun _ => 0))), (a0_parts, .inl (E 0, 10, .inl (fun _ => 0)))] s.heap.size = A at hD hG ⊢
  have hA : ∀ q : Nat, s.heap.size ≤ q → A q := fun q h => by rw [← hAe]; exact Or.inr h
  have hS : va_S A s.heap s.heap [] := va_S.rf
  have hP : va_P D vwCl [(a0, .inr (0, [.ref a0_counts, .ref a0_roads, .ref a0_bridges, .ref a0_waggons, .ref a0_parts, .ref a0_settings, .ref a0_trip, .int 0])), (a0_counts, .inl (E 0, 4, .inl (fun _ => 0))), (a0_parts, .inl (E 0, 10, .inl (fun _ => 0)))] s.heap := hP
  have hl := lv_entry ([.ref a0, .int v_a, .int v_b]) (n := 4) (Nat.le_of_ble_eq_true rfl)
  rw [lg_entry_eq]
  generalize (lg_sl ([.ref a0, .int v_a, .int v_b]) ++ List.replicate (4 - (lg_sl ([.ref a0, .int v_a, .int v_b])).length) Slot.unset).toArray = ls at hl ⊢
  have hl : lv_has ls 4 [(0, .ref a0), (1, .int v_a), (2, .int v_b)] := hl
  refine lv_aload_n hx hb dX0_addPart_0 rfl (lv_at hl 0 rfl) ?_
  refine va_get (D := D) (ci := 0) (v := .ref a0_counts) (C := RX0) (T := TX0) (N := 8) hx hb htg ig_0 hown hK hP 0 rfl rfl 0 (by decide) (htg _ q_97) (fun _ h9 => h9) rfl dX0_addPart_1 ?_
  refine lv_iconst (v := 3) hx hb dX0_addPart_4 (by decide) ?_
  refine va_iald hx hb hK hP 1 0 rfl rfl (show vp_in 3 4 by unfold vp_in; decide) dX0_addPart_5 ?_
  refine oh_nrm (v := 0) (by decide) ?_
  refine lv_iconst (v := 2) hx hb dX0_addPart_6 (by decide) ?_
  refine lv_imul hx hb dX0_addPart_7 ?_
  refine oh_nrm (v := 0) (by decide) ?_
  refine lv_istore_n (lv' := [(3, .int 0), (0, .ref a0), (1, .int v_a), (2, .int v_b)]) hx hb dX0_addPart_8 rfl hl (by decide) rfl (fun ls hl => ?_)
  refine lv_aload_n hx hb dX0_addPart_9 rfl (lv_at hl 1 rfl) ?_
  refine va_get (D := D) (ci := 0) (v := .ref a0_parts) (C := RX0) (T := TX0) (N := 8) hx hb htg ig_0 hown hK hP 0 rfl rfl 4 (by decide) (htg _ q_105) (fun _ h9 => h9) rfl dX0_addPart_10 ?_
  refine lv_iload_n hx hb dX0_addPart_13 rfl (lv_at hl 0 rfl) ?_
  refine lv_iconst (v := 0) hx hb dX0_addPart_14 (by decide) ?_
  refine lv_iadd hx hb dX0_addPart_15 ?_
  refine oh_nrm (v := 0) (by decide) ?_
  refine lv_iload_n hx hb dX0_addPart_16 rfl (lv_at hl 2 rfl) ?_
  refine va_iast hx hb hK hP hD hS 2 0 rfl rfl (show vp_in 0 10 by unfold vp_in; decide) dX0_addPart_17 (fun H locs hP hD hS => ?_)
  have hP : va_P D vwCl [(a0, .inr (0, [.ref a0_counts, .ref a0_roads, .ref a0_bridges, .ref a0_waggons, .ref a0_parts, .ref a0_settings, .ref a0_trip, .int 0])), (a0_counts, .inl (E 0, 4, .inl (fun _ => 0))), (a0_parts, .inl (E 0, 10, .inl (upd (fun _ => 0) 0 v_a)))] H := hP
  have hD : va_D A [(a0, .inr (0, [.ref a0_counts, .ref a0_roads, .ref a0_bridges, .ref a0_waggons, .ref a0_parts, .ref a0_settings, .ref a0_trip, .int 0])), (a0_counts, .inl (E 0, 4, .inl (fun _ => 0))), (a0_parts, .inl (E 0, 10, .inl (upd (fun _ => 0) 0 v_a)))] := hD
  refine lv_aload_n hx hb dX0_addPart_18 rfl (lv_at hl 1 rfl) ?_
  refine va_get (D := D) (ci := 0) (v := .ref a0_parts) (C := RX0) (T := TX0) (N := 8) hx hb htg ig_0 hown hK hP 0 rfl rfl 4 (by decide) (htg _ q_105) (fun _ h9 => h9) rfl dX0_addPart_19 ?_
  refine lv_iload_n hx hb dX0_addPart_22 rfl (lv_at hl 0 rfl) ?_
  refine lv_iconst (v := 1) hx hb dX0_addPart_23 (by decide) ?_
  refine lv_iadd hx hb dX0_addPart_24 ?_
  refine oh_nrm (v := 1) (by decide) ?_
  refine lv_iload_n hx hb dX0_addPart_25 rfl (lv_at hl 3 rfl) ?_
  refine va_iast hx hb hK hP hD hS 2 0 rfl rfl (show vp_in 1 10 by unfold vp_in; decide) dX0_addPart_26 (fun H locs hP hD hS => ?_)
  have hP : va_P D vwCl [(a0, .inr (0, [.ref a0_counts, .ref a0_roads, .ref a0_bridges, .ref a0_waggons, .ref a0_parts, .ref a0_settings, .ref a0_trip, .int 0])), (a0_counts, .inl (E 0, 4, .inl (fun _ => 0))), (a0_parts, .inl (E 0, 10, .inl (upd (upd (fun _ => 0) 0 v_a) 1 v_b)))] H := hP
  have hD : va_D A [(a0, .inr (0, [.ref a0_counts, .ref a0_roads, .ref a0_bridges, .ref a0_waggons, .ref a0_parts, .ref a0_settings, .ref a0_trip, .int 0])), (a0_counts, .inl (E 0, 4, .inl (fun _ => 0))), (a0_parts, .inl (E 0, 10, .inl (upd (upd (fun _ => 0) 0 v_a) 1 v_b)))] := hD
  refine lv_aload_n hx hb dX0_addPart_27 rfl (lv_at hl 1 rfl) ?_
  refine va_get (D := D) (ci := 0) (v := .ref a0_counts) (C := RX0) (T := TX0) (N := 8) hx hb htg ig_0 hown hK hP 0 rfl rfl 0 (by decide) (htg _ q_97) (fun _ h9 => h9) rfl dX0_addPart_28 ?_
  refine lv_iconst (v := 3) hx hb dX0_addPart_31 (by decide) ?_
  refine lv_dup2_11 hx hb dX0_addPart_32 rfl rfl ?_
  refine va_iald hx hb hK hP 1 0 rfl rfl (show vp_in 3 4 by unfold vp_in; decide) dX0_addPart_33 ?_
  refine oh_nrm (v := 0) (by decide) ?_
  refine lv_dup_x2 hx hb dX0_addPart_34 rfl rfl rfl ?_
  refine lv_iconst (v := 1) hx hb dX0_addPart_35 (by decide) ?_
  refine lv_iadd hx hb dX0_addPart_36 ?_
  refine oh_nrm (v := 1) (by decide) ?_
  refine va_iast hx hb hK hP hD hS 1 0 rfl rfl (show vp_in 3 4 by unfold vp_in; decide) dX0_addPart_37 (fun H locs hP hD hS => ?_)
  have hP : va_P D vwCl [(a0, .inr (0, [.ref a0_counts, .ref a0_roads, .ref a0_bridges, .ref a0_waggons, .ref a0_parts, .ref a0_settings, .ref a0_trip, .int 0])), (a0_counts, .inl (E 0, 4, .inl (upd (fun _ => 0) 3 1))), (a0_parts, .inl (E 0, 10, .inl (upd (upd (fun _ => 0) 0 v_a) 1 v_b)))] H := hP
  have hD : va_D A [(a0, .inr (0, [.ref a0_counts, .ref a0_roads, .ref a0_bridges, .ref a0_waggons, .ref a0_parts, .ref a0_settings, .ref a0_trip, .int 0])), (a0_counts, .inl (E 0, 4, .inl (upd (fun _ => 0) 3 1))), (a0_parts, .inl (E 0, 10, .inl (upd (upd (fun _ => 0) 0 v_a) 1 v_b)))] := hD
  refine W.widen (k := 0) (n := 0) (Nat.le_of_ble_eq_true rfl) (Nat.le_of_ble_eq_true rfl) ?_
  exact W.iret (v := 0) hx hb hr (fun t ht hW => ⟨⟨0, (), rfl, rfl, ⟨by rw [ht]; exact hP.sub [] rfl, hD.sub [] (by decide) rfl⟩⟩, hS.F ht⟩) hS.2.2 dX0_addPart_38
def fX6_road (v_a : Int32) (v_b : Int32) (v_c : Int32) (v_d : Int32) (v_e : Int32) (v_f : Int32) : Int32 :=
  if (fX6_within v_a 0 15) = 0 then (-2) else if (fX6_within v_b 0 15) = 0 then (-2) else if v_a = v_b then (-2) else if (fX6_within v_c 1 60) = 0 then (-2) else if (fX6_within v_d 0 9) = 0 then (-2) else if (fX6_within v_e 1 99) = 0 then (-2) else if (fX6_within v_f 0 15) = 0 then (-2) else 0
set_option maxHeartbeats 4000000 in
set_option maxRecDepth 100000 in
theorem c_X6_road (l : Launch) (D : va_G) (E : Nat → ClassId) (G : Nat → Nat) (sz : Nat) (a0 : Nat) (v_a : Int32) (v_b : Int32) (v_c : Int32) (v_d : Int32) (v_e : Int32) (v_f : Int32) (a0_now : Nat) (a0_kept : Nat) (a0_ways : Nat) (a0_shelves : Nat) (a0_tape : Nat) (a0_reader : Nat) (a0_refusals : Nat) (a0_bestPack : Nat) (a0_now_counts : Nat) (a0_now_roads : Nat) (a0_now_bridges : Nat) (a0_now_waggons : Nat) (a0_now_parts : Nat) (a0_now_settings : Nat) (a0_now_trip : Nat) : Met l yX6_road (oh_w yX6_road cX6_road 7 (some .int)) ({ frames := 2, cells := 0, slots := 0, locals := 44 }) (oh_Pm D E G [.ref a0, .int v_a, .int v_b, .int v_c, .int v_d, .int v_e, .int v_f] [(a0, .inr (6, [.ref a0_now, .ref a0_kept, .int 0, .ref a0_ways, .ref a0_shelves, .ref a0_tape, .ref a0_reader, .ref a0_refusals, .ref a0_bestPack])), (a0_now, .inr (0, [.ref a0_now_counts, .ref a0_now_roads, .ref a0_now_bridges, .ref a0_now_waggons, .ref a0_now_parts, .ref a0_now_settings, .ref a0_now_trip, .int 0])), (a0_now_counts, .inl (E 0, 4, .inl (fun _ => 0))), (a0_now_roads, .inl (E 0, 168, .inl (fun _ => 0))), (a0_refusals, .inl (E 0, 5, .inl (fun _ => 0)))] sz) (va_Qi (fun r (_ : Unit) => r = fX6_road v_a v_b v_c v_d v_e v_f) (oh_B D (va_A [(a0, .inr (6, [.ref a0_now, .ref a0_kept, .int 0, .ref a0_ways, .ref a0_shelves, .ref a0_tape, .ref a0_reader, .ref a0_refusals, .ref a0_bestPack])), (a0_now, .inr (0, [.ref a0_now_counts, .ref a0_now_roads, .ref a0_now_bridges, .ref a0_now_waggons, .ref a0_now_parts, .ref a0_now_settings, .ref a0_now_trip, .int 0])), (a0_now_counts, .inl (E 0, 4, .inl (fun _ => 0))), (a0_now_roads, .inl (E 0, 168, .inl (fun _ => 0))), (a0_refusals, .inl (E 0, 5, .inl (fun _ => 0)))] sz) (fun _ => [])) (va_A [(a0, .inr (6, [.ref a0_now, .ref a0_kept, .int 0, .ref a0_ways, .ref a0_shelves, .ref a0_tape, .ref a0_reader, .ref a0_refusals, .ref a0_bestPack])), (a0_now, .inr (0, [.ref a0_now_counts, .ref a0_now_roads, .ref a0_now_bridges, .ref a0_now_waggons, .ref a0_now_parts, .ref a0_now_settings, .ref a0_now_trip, .int 0])), (a0_now_counts, .inl (E 0, 4, .inl (fun _ => 0))), (a0_now_roads, .inl (E 0, 168, .inl (fun _ => 0))), (a0_refusals, .inl (E 0, 5, .inl (fun _ => 0)))] sz)) 0 0 (va_A [(a0, .inr (6, [.ref a0_now, .ref a0_kept, .int 0, .ref a0_ways, .ref a0_shelves, .ref a0_tape, .ref a0_reader, .ref a0_refusals, .ref a0_bestPack])), (a0_now, .inr (0, [.ref a0_now_counts, .ref a0_now_roads, .ref a0_now_bridges, .ref a0_now_waggons, .ref a0_now_parts, .ref a0_now_settings, .ref a0_now_trip, .int 0])), (a0_now_counts, .inl (E 0, 4, .inl (fun _ => 0))), (a0_now_roads, .inl (E 0, 168, .inl (fun _ => 0))), (a0_refusals, .inl (E 0, 5, .inl (fun _ => 0)))] sz) := by
  refine Met.ofW (cc := cX6_road) (maxL := 7) (ret := (some .int)) (by decide) rfl ?_
  intro p e s m args below meth c s₁ B hml hv
  obtain ⟨rfl, hsz, hP, hK, hD0, hG⟩ := hv
  have hx := B.exec
  have hb := B.bytes
  have hr := B.returns
  have hts := atoms_spec (ws := (oh_w yX6_road cX6_road 7 (some .int))) B.pre
  have htg : ∀ w ∈ oh_t, w.before _ s = true := fun w h => hts w (List.mem_cons_of_mem _ h)
  have hown : s.vm.findClass RX6 = some m.cls := findClass_of_methodNamed B.named
  have hlocks := B.notSynchronized
  subst hsz
  have hD := hD0.self (sz := s.heap.size)
  generalize hAe : va_A [(a0, .inr (6, [.ref a0_now, .ref a0_kept, .int 0, .ref a0_ways, .ref a0_shelves, .ref a0_tape, .ref a0_reader, .ref a0_refusals, .ref a0_bestPack])), (a0_now, .inr (0, [.ref a0_now_counts, .ref a0_now_roads, .ref a0_now_bridges, .ref a0_now_waggons, .ref a0_now_parts, .ref a0_now_settings, .ref a0_now_trip, .int 0])), (a0_now_counts, .inl (E 0, 4, .inl (fun _ => 0))), (a0_now_roads, .inl (E 0, 168, .inl (fun _ => 0))), (a0_refusals, .inl (E 0, 5, .inl (fun _ => 0)))] s.heap.size = A at hD hG ⊢
  have hA : ∀ q : Nat, s.heap.size ≤ q → A q := fun q h => by rw [← hAe]; exact Or.inr h
  have hS : va_S A s.heap s.heap [] := va_S.rf
  have hP : va_P D vwCl [(a0, .inr (6, [.ref a0_now, .ref a0_kept, .int 0, .ref a0_ways, .ref a0_shelves, .ref a0_tape, .ref a0_reader, .ref a0_refusals, .ref a0_bestPack])), (a0_now, .inr (0, [.ref a0_now_counts, .ref a0_now_roads, .ref a0_now_bridges, .ref a0_now_waggons, .ref a0_now_parts, .ref a0_now_settings, .ref a0_now_trip, .int 0])), (a0_now_counts, .inl (E 0, 4, .inl (fun _ => 0))), (a0_now_roads, .inl (E 0, 168, .inl (fun _ => 0))), (a0_refusals, .inl (E 0, 5, .inl (fun _ => 0)))] s.heap := hP
  have hl := lv_entry ([.ref a0, .int v_a, .int v_b, .int v_c, .int v_d, .int v_e, .int v_f]) (n := 7) (Nat.le_of_ble_eq_true rfl)
  rw [lg_entry_eq]
  generalize (lg_sl ([.ref a0, .int v_a, .int v_b, .int v_c, .int v_d, .int v_e, .int v_f]) ++ List.replicate (7 - (lg_sl ([.ref a0, .int v_a, .int v_b, .int v_c, .int v_d, .int v_e, .int v_f])).length) Slot.unset).toArray = ls at hl ⊢
  have hl : lv_has ls 7 [(0, .ref a0), (1, .int v_a), (2, .int v_b), (3, .int v_c), (4, .int v_d), (5, .int v_e), (6, .int v_f)] := hl
  refine lv_iload_n hx hb dX6_road_0 rfl (lv_at hl 1 rfl) ?_
  refine oh_pS (As := [.int v_a]) (rest := []) (v := fX6_within v_a 0 15) ⟨hx, hb, hml, hown, htg⟩ (c_X6_isPlace l D E G v_a) (va_cwS 1 htg (oh_gS q_413 q_414 q_66 q_415) rfl rfl rfl pdX6_isPlace ⟨Nat.le_of_ble_eq_true rfl, Nat.le_of_ble_eq_true rfl⟩) hK (hP.sub (ws' := []) [] rfl) hG hS rfl hl.1 rfl (Nat.le_of_ble_eq_true rfl) dX6_road_1 ⟨Nat.le_of_ble_eq_true rfl, Nat.le_of_ble_eq_true rfl⟩ ?_
  refine lv_if_eq (tgt := 62) hx hb dX6_road_4 (by decide) (fun (c_1 : (fX6_within v_a 0 15) = 0) => ?_) (fun (c_1 : ¬ ((fX6_within v_a 0 15) = 0)) => ?_)
  · refine lv_aload_n hx hb dX6_road_62 rfl (lv_at hl 0 rfl) ?_
    refine lv_bipush (v := (-2)) hx hb dX6_road_63 (by decide) ?_
    refine oh_mV (As := [.int (-2)]) (rest := []) (wr := [(a0_now, .inr (0, [.ref a0_now_counts, .ref a0_now_roads, .ref a0_now_bridges, .ref a0_now_waggons, .ref a0_now_parts, .ref a0_now_settings, .ref a0_now_trip, .int 0])), (a0_now_counts, .inl (E 0, 4, .inl (fun _ => 0))), (a0_now_roads, .inl (E 0, 168, .inl (fun _ => 0)))]) ⟨hx, hb, hml, hown, htg⟩ (c_X6_refuse l D E G s.heap.size a0 (-2) a0_now a0_kept a0_ways a0_shelves a0_tape a0_reader a0_refusals a0_bestPack) (cwV 1 htg (oh_gV q_296 q_298 q_0 q_66 q_299) rfl rfl rfl pdVX6_refuse ⟨Nat.le_of_ble_eq_true rfl, Nat.le_of_ble_eq_true rfl⟩) hK hP hD hG hS hA [0, 4] [1, 2, 3] rfl rfl (by decide) (by decide) (by decide) (va_recv hK hP (ci := 6) (q0 := 0) rfl rfl) rfl hl.1 rfl (Nat.le_of_ble_eq_true rfl) dX6_road_65 ⟨Nat.le_of_ble_eq_true rfl, Nat.le_of_ble_eq_true rfl⟩ (fun r_1 u H locs hw hP hD hS => ?_)
    subst hw
    have hP : va_P D vwCl [(a0_now, .inr (0, [.ref a0_now_counts, .ref a0_now_roads, .ref a0_now_bridges, .ref a0_now_waggons, .ref a0_now_parts, .ref a0_now_settings, .ref a0_now_trip, .int 0])), (a0_now_counts, .inl (E 0, 4, .inl (fun _ => 0))), (a0_now_roads, .inl (E 0, 168, .inl (fun _ => 0))), (a0, .inr (6, [.ref a0_now, .ref a0_kept, .int 0, .ref a0_ways, .ref a0_shelves, .ref a0_tape, .ref a0_reader, .ref a0_refusals, .ref a0_bestPack]))] H := hP
    have hD : va_D A [(a0_now, .inr (0, [.ref a0_now_counts, .ref a0_now_roads, .ref a0_now_bridges, .ref a0_now_waggons, .ref a0_now_parts, .ref a0_now_settings, .ref a0_now_trip, .int 0])), (a0_now_counts, .inl (E 0, 4, .inl (fun _ => 0))), (a0_now_roads, .inl (E 0, 168, .inl (fun _ => 0))), (a0, .inr (6, [.ref a0_now, .ref a0_kept, .int 0, .ref a0_ways, .ref a0_shelves, .ref a0_tape, .ref a0_reader, .ref a0_refusals, .ref a0_bestPack]))] := hD
    refine W.widen (k := 0) (n := 0) (Nat.le_refl _) (Nat.le_refl _) ?_
    refine W.widen (k := 0) (n := 0) (Nat.le_of_ble_eq_true rfl) (Nat.le_of_ble_eq_true rfl) ?_
    exact W.iret (v := (-2)) hx hb hr (fun t ht hW => ⟨⟨(-2), (), rfl, by unfold fX6_road; rw [if_pos c_1], ⟨by rw [ht]; exact hP.sub [] rfl, hD.sub [] (by decide) rfl⟩⟩, hS.F ht⟩) hS.2.2 dX6_road_68
  · refine lv_iload_n hx hb dX6_road_7 rfl (lv_at hl 2 rfl) ?_
    refine oh_pS (As := [.int v_b]) (rest := []) (v := fX6_within v_b 0 15) ⟨hx, hb, hml, hown, htg⟩ (c_X6_isPlace l D E G v_b) (va_cwS 1 htg (oh_gS q_413 q_414 q_66 q_415) rfl rfl rfl pdX6_isPlace ⟨Nat.le_of_ble_eq_true rfl, Nat.le_of_ble_eq_true rfl⟩) hK (hP.sub (ws' := []) [] rfl) hG hS rfl hl.1 rfl (Nat.le_of_ble_eq_true rfl) dX6_road_8 ⟨Nat.le_of_ble_eq_true rfl, Nat.le_of_ble_eq_true rfl⟩ ?_
    refine lv_if_eq (tgt := 62) hx hb dX6_road_11 (by decide) (fun (c_2 : (fX6_within v_b 0 15) = 0) => ?_) (fun (c_2 : ¬ ((fX6_within v_b 0 15) = 0)) => ?_)
    · refine lv_aload_n hx hb dX6_road_62 rfl (lv_at hl 0 rfl) ?_
      refine lv_bipush (v := (-2)) hx hb dX6_road_63 (by decide) ?_
      refine oh_mV (As := [.int (-2)]) (rest := []) (wr := [(a0_now, .inr (0, [.ref a0_now_counts, .ref a0_now_roads, .ref a0_now_bridges, .ref a0_now_waggons, .ref a0_now_parts, .ref a0_now_settings, .ref a0_now_trip, .int 0])), (a0_now_counts, .inl (E 0, 4, .inl (fun _ => 0))), (a0_now_roads, .inl (E 0, 168, .inl (fun _ => 0)))]) ⟨hx, hb, hml, hown, htg⟩ (c_X6_refuse l D E G s.heap.size a0 (-2) a0_now a0_kept a0_ways a0_shelves a0_tape a0_reader a0_refusals a0_bestPack) (cwV 1 htg (oh_gV q_296 q_298 q_0 q_66 q_299) rfl rfl rfl pdVX6_refuse ⟨Nat.le_of_ble_eq_true rfl, Nat.le_of_ble_eq_true rfl⟩) hK hP hD hG hS hA [0, 4] [1, 2, 3] rfl rfl (by decide) (by decide) (by decide) (va_recv hK hP (ci := 6) (q0 := 0) rfl rfl) rfl hl.1 rfl (Nat.le_of_ble_eq_true rfl) dX6_road_65 ⟨Nat.le_of_ble_eq_true rfl, Nat.le_of_ble_eq_true rfl⟩ (fun r_2 u H locs hw hP hD hS => ?_)
      subst hw
      have hP : va_P D vwCl [(a0_now, .inr (0, [.ref a0_now_counts, .ref a0_now_roads, .ref a0_now_bridges, .ref a0_now_waggons, .ref a0_now_parts, .ref a0_now_settings, .ref a0_now_trip, .int 0])), (a0_now_counts, .inl (E 0, 4, .inl (fun _ => 0))), (a0_now_roads, .inl (E 0, 168, .inl (fun _ => 0))), (a0, .inr (6, [.ref a0_now, .ref a0_kept, .int 0, .ref a0_ways, .ref a0_shelves, .ref a0_tape, .ref a0_reader, .ref a0_refusals, .ref a0_bestPack]))] H := hP
      have hD : va_D A [(a0_now, .inr (0, [.ref a0_now_counts, .ref a0_now_roads, .ref a0_now_bridges, .ref a0_now_waggons, .ref a0_now_parts, .ref a0_now_settings, .ref a0_now_trip, .int 0])), (a0_now_counts, .inl (E 0, 4, .inl (fun _ => 0))), (a0_now_roads, .inl (E 0, 168, .inl (fun _ => 0))), (a0, .inr (6, [.ref a0_now, .ref a0_kept, .int 0, .ref a0_ways, .ref a0_shelves, .ref a0_tape, .ref a0_reader, .ref a0_refusals, .ref a0_bestPack]))] := hD
      refine W.widen (k := 0) (n := 0) (Nat.le_refl _) (Nat.le_refl _) ?_
      refine W.widen (k := 0) (n := 0) (Nat.le_of_ble_eq_true rfl) (Nat.le_of_ble_eq_true rfl) ?_
      exact W.iret (v := (-2)) hx hb hr (fun t ht hW => ⟨⟨(-2), (), rfl, by unfold fX6_road; rw [if_neg c_1, if_pos c_2], ⟨by rw [ht]; exact hP.sub [] rfl, hD.sub [] (by decide) rfl⟩⟩, hS.F ht⟩) hS.2.2 dX6_road_68
    · refine lv_iload_n hx hb dX6_road_14 rfl (lv_at hl 1 rfl) ?_
      refine lv_iload_n hx hb dX6_road_15 rfl (lv_at hl 2 rfl) ?_
      refine lv_icmp_eq (tgt := 62) hx hb dX6_road_16 (by decide) (fun (c_3 : v_a = v_b) => ?_) (fun (c_3 : ¬ (v_a = v_b)) => ?_)
      · refine lv_aload_n hx hb dX6_road_62 rfl (lv_at hl 0 rfl) ?_
        refine lv_bipush (v := (-2)) hx hb dX6_road_63 (by decide) ?_
        refine oh_mV (As := [.int (-2)]) (rest := []) (wr := [(a0_now, .inr (0, [.ref a0_now_counts, .ref a0_now_roads, .ref a0_now_bridges, .ref a0_now_waggons, .ref a0_now_parts, .ref a0_now_settings, .ref a0_now_trip, .int 0])), (a0_now_counts, .inl (E 0, 4, .inl (fun _ => 0))), (a0_now_roads, .inl (E 0, 168, .inl (fun _ => 0)))]) ⟨hx, hb, hml, hown, htg⟩ (c_X6_refuse l D E G s.heap.size a0 (-2) a0_now a0_kept a0_ways a0_shelves a0_tape a0_reader a0_refusals a0_bestPack) (cwV 1 htg (oh_gV q_296 q_298 q_0 q_66 q_299) rfl rfl rfl pdVX6_refuse ⟨Nat.le_of_ble_eq_true rfl, Nat.le_of_ble_eq_true rfl⟩) hK hP hD hG hS hA [0, 4] [1, 2, 3] rfl rfl (by decide) (by decide) (by decide) (va_recv hK hP (ci := 6) (q0 := 0) rfl rfl) rfl hl.1 rfl (Nat.le_of_ble_eq_true rfl) dX6_road_65 ⟨Nat.le_of_ble_eq_true rfl, Nat.le_of_ble_eq_true rfl⟩ (fun r_3 u H locs hw hP hD hS => ?_)
        subst hw
        have hP : va_P D vwCl [(a0_now, .inr (0, [.ref a0_now_counts, .ref a0_now_roads, .ref a0_now_bridges, .ref a0_now_waggons, .ref a0_now_parts, .ref a0_now_settings, .ref a0_now_trip, .int 0])), (a0_now_counts, .inl (E 0, 4, .inl (fun _ => 0))), (a0_now_roads, .inl (E 0, 168, .inl (fun _ => 0))), (a0, .inr (6, [.ref a0_now, .ref a0_kept, .int 0, .ref a0_ways, .ref a0_shelves, .ref a0_tape, .ref a0_reader, .ref a0_refusals, .ref a0_bestPack]))] H := hP
        have hD : va_D A [(a0_now, .inr (0, [.ref a0_now_counts, .ref a0_now_roads, .ref a0_now_bridges, .ref a0_now_waggons, .ref a0_now_parts, .ref a0_now_settings, .ref a0_now_trip, .int 0])), (a0_now_counts, .inl (E 0, 4, .inl (fun _ => 0))), (a0_now_roads, .inl (E 0, 168, .inl (fun _ => 0))), (a0, .inr (6, [.ref a0_now, .ref a0_kept, .int 0, .ref a0_ways, .ref a0_shelves, .ref a0_tape, .ref a0_reader, .ref a0_refusals, .ref a0_bestPack]))] := hD
        refine W.widen (k := 0) (n := 0) (Nat.le_refl _) (Nat.le_refl _) ?_
        refine W.widen (k := 0) (n := 0) (Nat.le_of_ble_eq_true rfl) (Nat.le_of_ble_eq_true rfl) ?_
        exact W.iret (v := (-2)) hx hb hr (fun t ht hW => ⟨⟨(-2), (), rfl, by unfold fX6_road; rw [if_neg c_1, if_neg c_2, if_pos c_3], ⟨by rw [ht]; exact hP.sub [] rfl, hD.sub [] (by decide) rfl⟩⟩, hS.F ht⟩) hS.2.2 dX6_road_68
      · refine lv_iload_n hx hb dX6_road_19 rfl (lv_at hl 3 rfl) ?_
        refine lv_iconst (v := 1) hx hb dX6_road_20 (by decide) ?_
        refine lv_bipush (v := 60) hx hb dX6_road_21 (by decide) ?_
        refine oh_pS (As := [.int v_c, .int 1, .int 60]) (rest := []) (v := fX6_within v_c 1 60) ⟨hx, hb, hml, hown, htg⟩ (c_X6_within l D E G v_c 1 60) (va_cwS 3 htg (oh_gS q_293 q_294 q_66 q_295) rfl rfl rfl pdX6_within ⟨Nat.le_of_ble_eq_true rfl, Nat.le_of_ble_eq_true rfl⟩) hK (hP.sub (ws' := []) [] rfl) hG hS rfl hl.1 rfl (Nat.le_of_ble_eq_true rfl) dX6_road_23 ⟨Nat.le_of_ble_eq_true rfl, Nat.le_of_ble_eq_true rfl⟩ ?_
        refine lv_if_eq (tgt := 62) hx hb dX6_road_26 (by decide) (fun (c_4 : (fX6_within v_c 1 60) = 0) => ?_) (fun (c_4 : ¬ ((fX6_within v_c 1 60) = 0)) => ?_)
        · refine lv_aload_n hx hb dX6_road_62 rfl (lv_at hl 0 rfl) ?_
          refine lv_bipush (v := (-2)) hx hb dX6_road_63 (by decide) ?_
          refine oh_mV (As := [.int (-2)]) (rest := []) (wr := [(a0_now, .inr (0, [.ref a0_now_counts, .ref a0_now_roads, .ref a0_now_bridges, .ref a0_now_waggons, .ref a0_now_parts, .ref a0_now_settings, .ref a0_now_trip, .int 0])), (a0_now_counts, .inl (E 0, 4, .inl (fun _ => 0))), (a0_now_roads, .inl (E 0, 168, .inl (fun _ => 0)))]) ⟨hx, hb, hml, hown, htg⟩ (c_X6_refuse l D E G s.heap.size a0 (-2) a0_now a0_kept a0_ways a0_shelves a0_tape a0_reader a0_refusals a0_bestPack) (cwV 1 htg (oh_gV q_296 q_298 q_0 q_66 q_299) rfl rfl rfl pdVX6_refuse ⟨Nat.le_of_ble_eq_true rfl, Nat.le_of_ble_eq_true rfl⟩) hK hP hD hG hS hA [0, 4] [1, 2, 3] rfl rfl (by decide) (by decide) (by decide) (va_recv hK hP (ci := 6) (q0 := 0) rfl rfl) rfl hl.1 rfl (Nat.le_of_ble_eq_true rfl) dX6_road_65 ⟨Nat.le_of_ble_eq_true rfl, Nat.le_of_ble_eq_true rfl⟩ (fun r_4 u H locs hw hP hD hS => ?_)
          subst hw
          have hP : va_P D vwCl [(a0_now, .inr (0, [.ref a0_now_counts, .ref a0_now_roads, .ref a0_now_bridges, .ref a0_now_waggons, .ref a0_now_parts, .ref a0_now_settings, .ref a0_now_trip, .int 0])), (a0_now_counts, .inl (E 0, 4, .inl (fun _ => 0))), (a0_now_roads, .inl (E 0, 168, .inl (fun _ => 0))), (a0, .inr (6, [.ref a0_now, .ref a0_kept, .int 0, .ref a0_ways, .ref a0_shelves, .ref a0_tape, .ref a0_reader, .ref a0_refusals, .ref a0_bestPack]))] H := hP
          have hD : va_D A [(a0_now, .inr (0, [.ref a0_now_counts, .ref a0_now_roads, .ref a0_now_bridges, .ref a0_now_waggons, .ref a0_now_parts, .ref a0_now_settings, .ref a0_now_trip, .int 0])), (a0_now_counts, .inl (E 0, 4, .inl (fun _ => 0))), (a0_now_roads, .inl (E 0, 168, .inl (fun _ => 0))), (a0, .inr (6, [.ref a0_now, .ref a0_kept, .int 0, .ref a0_ways, .ref a0_shelves, .ref a0_tape, .ref a0_reader, .ref a0_refusals, .ref a0_bestPack]))] := hD
          refine W.widen (k := 0) (n := 0) (Nat.le_refl _) (Nat.le_refl _) ?_
          refine W.widen (k := 0) (n := 0) (Nat.le_of_ble_eq_true rfl) (Nat.le_of_ble_eq_true rfl) ?_
          exact W.iret (v := (-2)) hx hb hr (fun t ht hW => ⟨⟨(-2), (), rfl, by unfold fX6_road; rw [if_neg c_1, if_neg c_2, if_neg c_3, if_pos c_4], ⟨by rw [ht]; exact hP.sub [] rfl, hD.sub [] (by decide) rfl⟩⟩, hS.F ht⟩) hS.2.2 dX6_road_68
        · refine lv_iload hx hb dX6_road_29 (lv_at hl 4 rfl) ?_
          refine lv_iconst (v := 0) hx hb dX6_road_31 (by decide) ?_
          refine lv_bipush (v := 9) hx hb dX6_road_32 (by decide) ?_
          refine oh_pS (As := [.int v_d, .int 0, .int 9]) (rest := []) (v := fX6_within v_d 0 9) ⟨hx, hb, hml, hown, htg⟩ (c_X6_within l D E G v_d 0 9) (va_cwS 3 htg (oh_gS q_293 q_294 q_66 q_295) rfl rfl rfl pdX6_within ⟨Nat.le_of_ble_eq_true rfl, Nat.le_of_ble_eq_true rfl⟩) hK (hP.sub (ws' := []) [] rfl) hG hS rfl hl.1 rfl (Nat.le_of_ble_eq_true rfl) dX6_road_34 ⟨Nat.le_of_ble_eq_true rfl, Nat.le_of_ble_eq_true rfl⟩ ?_
          refine lv_if_eq (tgt := 62) hx hb dX6_road_37 (by decide) (fun (c_5 : (fX6_within v_d 0 9) = 0) => ?_) (fun (c_5 : ¬ ((fX6_within v_d 0 9) = 0)) => ?_)
          · refine lv_aload_n hx hb dX6_road_62 rfl (lv_at hl 0 rfl) ?_
            refine lv_bipush (v := (-2)) hx hb dX6_road_63 (by decide) ?_
            refine oh_mV (As := [.int (-2)]) (rest := []) (wr := [(a0_now, .inr (0, [.ref a0_now_counts, .ref a0_now_roads, .ref a0_now_bridges, .ref a0_now_waggons, .ref a0_now_parts, .ref a0_now_settings, .ref a0_now_trip, .int 0])), (a0_now_counts, .inl (E 0, 4, .inl (fun _ => 0))), (a0_now_roads, .inl (E 0, 168, .inl (fun _ => 0)))]) ⟨hx, hb, hml, hown, htg⟩ (c_X6_refuse l D E G s.heap.size a0 (-2) a0_now a0_kept a0_ways a0_shelves a0_tape a0_reader a0_refusals a0_bestPack) (cwV 1 htg (oh_gV q_296 q_298 q_0 q_66 q_299) rfl rfl rfl pdVX6_refuse ⟨Nat.le_of_ble_eq_true rfl, Nat.le_of_ble_eq_true rfl⟩) hK hP hD hG hS hA [0, 4] [1, 2, 3] rfl rfl (by decide) (by decide) (by decide) (va_recv hK hP (ci := 6) (q0 := 0) rfl rfl) rfl hl.1 rfl (Nat.le_of_ble_eq_true rfl) dX6_road_65 ⟨Nat.le_of_ble_eq_true rfl, Nat.le_of_ble_eq_true rfl⟩ (fun r_5 u H locs hw hP hD hS => ?_)
            subst hw
            have hP : va_P D vwCl [(a0_now, .inr (0, [.ref a0_now_counts, .ref a0_now_roads, .ref a0_now_bridges, .ref a0_now_waggons, .ref a0_now_parts, .ref a0_now_settings, .ref a0_now_trip, .int 0])), (a0_now_counts, .inl (E 0, 4, .inl (fun _ => 0))), (a0_now_roads, .inl (E 0, 168, .inl (fun _ => 0))), (a0, .inr (6, [.ref a0_now, .ref a0_kept, .int 0, .ref a0_ways, .ref a0_shelves, .ref a0_tape, .ref a0_reader, .ref a0_refusals, .ref a0_bestPack]))] H := hP
            have hD : va_D A [(a0_now, .inr (0, [.ref a0_now_counts, .ref a0_now_roads, .ref a0_now_bridges, .ref a0_now_waggons, .ref a0_now_parts, .ref a0_now_settings, .ref a0_now_trip, .int 0])), (a0_now_counts, .inl (E 0, 4, .inl (fun _ => 0))), (a0_now_roads, .inl (E 0, 168, .inl (fun _ => 0))), (a0, .inr (6, [.ref a0_now, .ref a0_kept, .int 0, .ref a0_ways, .ref a0_shelves, .ref a0_tape, .ref a0_reader, .ref a0_refusals, .ref a0_bestPack]))] := hD
            refine W.widen (k := 0) (n := 0) (Nat.le_refl _) (Nat.le_refl _) ?_
            refine W.widen (k := 0) (n := 0) (Nat.le_of_ble_eq_true rfl) (Nat.le_of_ble_eq_true rfl) ?_
            exact W.iret (v := (-2)) hx hb hr (fun t ht hW => ⟨⟨(-2), (), rfl, by unfold fX6_road; rw [if_neg c_1, if_neg c_2, if_neg c_3, if_neg c_4, if_pos c_5], ⟨by rw [ht]; exact hP.sub [] rfl, hD.sub [] (by decide) rfl⟩⟩, hS.F ht⟩) hS.2.2 dX6_road_68
          · refine lv_iload hx hb dX6_road_40 (lv_at hl 5 rfl) ?_
            refine lv_iconst (v := 1) hx hb dX6_road_42 (by decide) ?_
            refine lv_bipush (v := 99) hx hb dX6_road_43 (by decide) ?_
            refine oh_pS (As := [.int v_e, .int 1, .int 99]) (rest := []) (v := fX6_within v_e 1 99) ⟨hx, hb, hml, hown, htg⟩ (c_X6_within l D E G v_e 1 99) (va_cwS 3 htg (oh_gS q_293 q_294 q_66 q_295) rfl rfl rfl pdX6_within ⟨Nat.le_of_ble_eq_true rfl, Nat.le_of_ble_eq_true rfl⟩) hK (hP.sub (ws' := []) [] rfl) hG hS rfl hl.1 rfl (Nat.le_of_ble_eq_true rfl) dX6_road_45 ⟨Nat.le_of_ble_eq_true rfl, Nat.le_of_ble_eq_true rfl⟩ ?_
            refine lv_if_eq (tgt := 62) hx hb dX6_road_48 (by decide) (fun (c_6 : (fX6_within v_e 1 99) = 0) => ?_) (fun (c_6 : ¬ ((fX6_within v_e 1 99) = 0)) => ?_)
            · refine lv_aload_n hx hb dX6_road_62 rfl (lv_at hl 0 rfl) ?_
              refine lv_bipush (v := (-2)) hx hb dX6_road_63 (by decide) ?_
              refine oh_mV (As := [.int (-2)]) (rest := []) (wr := [(a0_now, .inr (0, [.ref a0_now_counts, .ref a0_now_roads, .ref a0_now_bridges, .ref a0_now_waggons, .ref a0_now_parts, .ref a0_now_settings, .ref a0_now_trip, .int 0])), (a0_now_counts, .inl (E 0, 4, .inl (fun _ => 0))), (a0_now_roads, .inl (E 0, 168, .inl (fun _ => 0)))]) ⟨hx, hb, hml, hown, htg⟩ (c_X6_refuse l D E G s.heap.size a0 (-2) a0_now a0_kept a0_ways a0_shelves a0_tape a0_reader a0_refusals a0_bestPack) (cwV 1 htg (oh_gV q_296 q_298 q_0 q_66 q_299) rfl rfl rfl pdVX6_refuse ⟨Nat.le_of_ble_eq_true rfl, Nat.le_of_ble_eq_true rfl⟩) hK hP hD hG hS hA [0, 4] [1, 2, 3] rfl rfl (by decide) (by decide) (by decide) (va_recv hK hP (ci := 6) (q0 := 0) rfl rfl) rfl hl.1 rfl (Nat.le_of_ble_eq_true rfl) dX6_road_65 ⟨Nat.le_of_ble_eq_true rfl, Nat.le_of_ble_eq_true rfl⟩ (fun r_6 u H locs hw hP hD hS => ?_)
              subst hw
              have hP : va_P D vwCl [(a0_now, .inr (0, [.ref a0_now_counts, .ref a0_now_roads, .ref a0_now_bridges, .ref a0_now_waggons, .ref a0_now_parts, .ref a0_now_settings, .ref a0_now_trip, .int 0])), (a0_now_counts, .inl (E 0, 4, .inl (fun _ => 0))), (a0_now_roads, .inl (E 0, 168, .inl (fun _ => 0))), (a0, .inr (6, [.ref a0_now, .ref a0_kept, .int 0, .ref a0_ways, .ref a0_shelves, .ref a0_tape, .ref a0_reader, .ref a0_refusals, .ref a0_bestPack]))] H := hP
              have hD : va_D A [(a0_now, .inr (0, [.ref a0_now_counts, .ref a0_now_roads, .ref a0_now_bridges, .ref a0_now_waggons, .ref a0_now_parts, .ref a0_now_settings, .ref a0_now_trip, .int 0])), (a0_now_counts, .inl (E 0, 4, .inl (fun _ => 0))), (a0_now_roads, .inl (E 0, 168, .inl (fun _ => 0))), (a0, .inr (6, [.ref a0_now, .ref a0_kept, .int 0, .ref a0_ways, .ref a0_shelves, .ref a0_tape, .ref a0_reader, .ref a0_refusals, .ref a0_bestPack]))] := hD
              refine W.widen (k := 0) (n := 0) (Nat.le_refl _) (Nat.le_refl _) ?_
              refine W.widen (k := 0) (n := 0) (Nat.le_of_ble_eq_true rfl) (Nat.le_of_ble_eq_true rfl) ?_
              exact W.iret (v := (-2)) hx hb hr (fun t ht hW => ⟨⟨(-2), (), rfl, by unfold fX6_road; rw [if_neg c_1, if_neg c_2, if_neg c_3, if_neg c_4, if_neg c_5, if_pos c_6], ⟨by rw [ht]; exact hP.sub [] rfl, hD.sub [] (by decide) rfl⟩⟩, hS.F ht⟩) hS.2.2 dX6_road_68
            · refine lv_iload hx hb dX6_road_51 (lv_at hl 6 rfl) ?_
              refine lv_iconst (v := 0) hx hb dX6_road_53 (by decide) ?_
              refine lv_bipush (v := 15) hx hb dX6_road_54 (by decide) ?_
              refine oh_pS (As := [.int v_f, .int 0, .int 15]) (rest := []) (v := fX6_within v_f 0 15) ⟨hx, hb, hml, hown, htg⟩ (c_X6_within l D E G v_f 0 15) (va_cwS 3 htg (oh_gS q_293 q_294 q_66 q_295) rfl rfl rfl pdX6_within ⟨Nat.le_of_ble_eq_true rfl, Nat.le_of_ble_eq_true rfl⟩) hK (hP.sub (ws' := []) [] rfl) hG hS rfl hl.1 rfl (Nat.le_of_ble_eq_true rfl) dX6_road_56 ⟨Nat.le_of_ble_eq_true rfl, Nat.le_of_ble_eq_true rfl⟩ ?_
              refine lv_if_ne (tgt := 69) hx hb dX6_road_59 (by decide) (fun (c_7 : ¬ ((fX6_within v_f 0 15) = 0)) => ?_) (fun (c_7 : (fX6_within v_f 0 15) = 0) => ?_)
              · refine lv_aload_n hx hb dX6_road_69 rfl (lv_at hl 0 rfl) ?_
                refine va_get (D := D) (ci := 6) (v := .ref a0_now) (C := RX6) (T := TX6) (N := 9) hx hb htg ig_6 hown hK hP 0 rfl rfl 0 (by decide) (htg _ q_258) (fun _ h9 => h9) rfl dX6_road_70 ?_
                refine lv_iconst (v := 0) hx hb dX6_road_73 (by decide) ?_
                refine oh_pV (As := [.int 0]) (rest := []) (v := 1) ⟨hx, hb, hml, hown, htg⟩ (c_X0_hasRoom0 l D E G a0_now a0_now_counts a0_now_roads a0_now_bridges a0_now_waggons a0_now_parts a0_now_settings a0_now_trip) (cwV 1 htg (oh_gV q_416 q_417 q_418 q_67 q_419) rfl rfl rfl pdVX0_hasRoom ⟨Nat.le_of_ble_eq_true rfl, Nat.le_of_ble_eq_true rfl⟩) hK (hP.sub (ws' := [(a0_now, .inr (0, [.ref a0_now_counts, .ref a0_now_roads, .ref a0_now_bridges, .ref a0_now_waggons, .ref a0_now_parts, .ref a0_now_settings, .ref a0_now_trip, .int 0])), (a0_now_counts, .inl (E 0, 4, .inl (fun _ => 0)))]) [1, 2] rfl) hG hS (va_recv hK hP (ci := 0) (q0 := 1) rfl rfl) rfl hl.1 rfl (Nat.le_of_ble_eq_true rfl) dX6_road_74 ⟨Nat.le_of_ble_eq_true rfl, Nat.le_of_ble_eq_true rfl⟩ ?_
                refine lv_if_ne (tgt := 87) hx hb dX6_road_77 (by decide) (fun _ => ?_) (fun c => absurd c (show ¬ ((1 : Int32) = 0) from by decide))
                refine lv_aload_n hx hb dX6_road_87 rfl (lv_at hl 0 rfl) ?_
                refine va_get (D := D) (ci := 6) (v := .ref a0_now) (C := RX6) (T := TX6) (N := 9) hx hb htg ig_6 hown hK hP 0 rfl rfl 0 (by decide) (htg _ q_258) (fun _ h9 => h9) rfl dX6_road_88 ?_
                refine lv_iload_n hx hb dX6_road_91 rfl (lv_at hl 1 rfl) ?_
                refine lv_iload_n hx hb dX6_road_92 rfl (lv_at hl 2 rfl) ?_
                refine lv_iload_n hx hb dX6_road_93 rfl (lv_at hl 3 rfl) ?_
                refine lv_iload hx hb dX6_road_94 (lv_at hl 4 rfl) ?_
                refine lv_iload hx hb dX6_road_96 (lv_at hl 5 rfl) ?_
                refine lv_iload hx hb dX6_road_98 (lv_at hl 6 rfl) ?_
                refine oh_mV (As := [.int v_a, .int v_b, .int v_c, .int v_d, .int v_e, .int v_f]) (rest := []) (wr := [(a0, .inr (6, [.ref a0_now, .ref a0_kept, .int 0, .ref a0_ways, .ref a0_shelves, .ref a0_tape, .ref a0_reader, .ref a0_refusals, .ref a0_bestPack])), (a0_refusals, .inl (E 0, 5, .inl (fun _ => 0)))]) ⟨hx, hb, hml, hown, htg⟩ (c_X0_addRoad l D E G s.heap.size a0_now v_a v_b v_c v_d v_e v_f a0_now_counts a0_now_roads a0_now_bridges a0_now_waggons a0_now_parts a0_now_settings a0_now_trip) (cwV 6 htg (oh_gV q_420 q_421 q_422 q_67 q_423) rfl rfl rfl pdVX0_addRoad ⟨Nat.le_of_ble_eq_true rfl, Nat.le_of_ble_eq_true rfl⟩) hK hP hD hG hS hA [1, 2, 3] [0, 4] rfl rfl (by decide) (by decide) (by decide) (va_recv hK hP (ci := 0) (q0 := 1) rfl rfl) rfl hl.1 rfl (Nat.le_of_ble_eq_true rfl) dX6_road_100 ⟨Nat.le_of_ble_eq_true rfl, Nat.le_of_ble_eq_true rfl⟩ (fun r_7 u H locs hw hP hD hS => ?_)
                subst hw
                have hP : va_P D vwCl [(a0, .inr (6, [.ref a0_now, .ref a0_kept, .int 0, .ref a0_ways, .ref a0_shelves, .ref a0_tape, .ref a0_reader, .ref a0_refusals, .ref a0_bestPack])), (a0_refusals, .inl (E 0, 5, .inl (fun _ => 0)))] H := hP
                have hD : va_D A [(a0, .inr (6, [.ref a0_now, .ref a0_kept, .int 0, .ref a0_ways, .ref a0_shelves, .ref a0_tape, .ref a0_reader, .ref a0_refusals, .ref a0_bestPack])), (a0_refusals, .inl (E 0, 5, .inl (fun _ => 0)))] := hD
                refine W.widen (k := 0) (n := 0) (Nat.le_refl _) (Nat.le_refl _) ?_
                refine W.widen (k := 0) (n := 0) (Nat.le_of_ble_eq_true rfl) (Nat.le_of_ble_eq_true rfl) ?_
                exact W.iret (v := 0) hx hb hr (fun t ht hW => ⟨⟨0, (), rfl, by unfold fX6_road; rw [if_neg c_1, if_neg c_2, if_neg c_3, if_neg c_4, if_neg c_5, if_neg c_6, if_neg c_7], ⟨by rw [ht]; exact hP.sub [] rfl, hD.sub [] (by decide) rfl⟩⟩, hS.F ht⟩) hS.2.2 dX6_road_103
              · refine lv_aload_n hx hb dX6_road_62 rfl (lv_at hl 0 rfl) ?_
                refine lv_bipush (v := (-2)) hx hb dX6_road_63 (by decide) ?_
                refine oh_mV (As := [.int (-2)]) (rest := []) (wr := [(a0_now, .inr (0, [.ref a0_now_counts, .ref a0_now_roads, .ref a0_now_bridges, .ref a0_now_waggons, .ref a0_now_parts, .ref a0_now_settings, .ref a0_now_trip, .int 0])), (a0_now_counts, .inl (E 0, 4, .inl (fun _ => 0))), (a0_now_roads, .inl (E 0, 168, .inl (fun _ => 0)))]) ⟨hx, hb, hml, hown, htg⟩ (c_X6_refuse l D E G s.heap.size a0 (-2) a0_now a0_kept a0_ways a0_shelves a0_tape a0_reader a0_refusals a0_bestPack) (cwV 1 htg (oh_gV q_296 q_298 q_0 q_66 q_299) rfl rfl rfl pdVX6_refuse ⟨Nat.le_of_ble_eq_true rfl, Nat.le_of_ble_eq_true rfl⟩) hK hP hD hG hS hA [0, 4] [1, 2, 3] rfl rfl (by decide) (by decide) (by decide) (va_recv hK hP (ci := 6) (q0 := 0) rfl rfl) rfl hl.1 rfl (Nat.le_of_ble_eq_true rfl) dX6_road_65 ⟨Nat.le_of_ble_eq_true rfl, Nat.le_of_ble_eq_true rfl⟩ (fun r_8 u H locs hw hP hD hS => ?_)
                subst hw
                have hP : va_P D vwCl [(a0_now, .inr (0, [.ref a0_now_counts, .ref a0_now_roads, .ref a0_now_bridges, .ref a0_now_waggons, .ref a0_now_parts, .ref a0_now_settings, .ref a0_now_trip, .int 0])), (a0_now_counts, .inl (E 0, 4, .inl (fun _ => 0))), (a0_now_roads, .inl (E 0, 168, .inl (fun _ => 0))), (a0, .inr (6, [.ref a0_now, .ref a0_kept, .int 0, .ref a0_ways, .ref a0_shelves, .ref a0_tape, .ref a0_reader, .ref a0_refusals, .ref a0_bestPack]))] H := hP
                have hD : va_D A [(a0_now, .inr (0, [.ref a0_now_counts, .ref a0_now_roads, .ref a0_now_bridges, .ref a0_now_waggons, .ref a0_now_parts, .ref a0_now_settings, .ref a0_now_trip, .int 0])), (a0_now_counts, .inl (E 0, 4, .inl (fun _ => 0))), (a0_now_roads, .inl (E 0, 168, .inl (fun _ => 0))), (a0, .inr (6, [.ref a0_now, .ref a0_kept, .int 0, .ref a0_ways, .ref a0_shelves, .ref a0_tape, .ref a0_reader, .ref a0_refusals, .ref a0_bestPack]))] := hD
                refine W.widen (k := 0) (n := 0) (Nat.le_refl _) (Nat.le_refl _) ?_
                refine W.widen (k := 0) (n := 0) (Nat.le_of_ble_eq_true rfl) (Nat.le_of_ble_eq_true rfl) ?_
                exact W.iret (v := (-2)) hx hb hr (fun t ht hW => ⟨⟨(-2), (), rfl, by unfold fX6_road; rw [if_neg c_1, if_neg c_2, if_neg c_3, if_neg c_4, if_neg c_5, if_neg c_6, if_pos c_7], ⟨by rw [ht]; exact hP.sub [] rfl, hD.sub [] (by decide) rfl⟩⟩, hS.F ht⟩) hS.2.2 dX6_road_68
