set_option maxHeartbeats 4000000 in
set_option maxRecDepth 100000 in
theorem c_X7_reach (l : Launch) (D : va_G) (E : Nat → ClassId) (G : Nat → Nat) (sz : Nat) (a0 : Nat) (v_a : Int32) (v_b : Int32) (v_c : Int32) (a0_shelf : Nat) (a0_rowSort : Nat) (a0_rowSize : Nat) (a0_rows : Nat) (a0_moved : Nat) (a0_shown : Nat) (a0_tape : Nat) (a0_refused : Nat) (a0_road : Nat) (a0_bridge : Nat) (a0_waggon : Nat) (a0_part : Nat) (a0_asked : Nat) (a0_under : Nat) (a0_far : Nat) : Met l yX7_reach (oh_w yX7_reach cX7_reach 6 (some .int)) ({ frames := 3, cells := 0, slots := 0, locals := 68 }) (oh_Pm D E G [.ref a0, .int v_a, .int v_b, .int v_c] [(a0, .inr (7, [.ref a0_shelf, .ref a0_rowSort, .ref a0_rowSize, .ref a0_rows, .ref a0_moved, .ref a0_shown, .ref a0_tape, .int 0, .ref a0_refused, .int 0, .ref a0_road, .int 0, .ref a0_bridge, .int 0, .ref a0_waggon, .int 0, .ref a0_part, .ref a0_asked, .ref a0_under, .int 0, .null, .int 0, .int 0, .int 0, .long 0, .int 0, .int 0, .ref a0_far, .int 0])), (a0_refused, .inl (E 0, 8, .inl (fun _ => 0)))] sz) (va_Qi (fun r (_ : Unit) => r = (-2)) (oh_B D (va_A [(a0, .inr (7, [.ref a0_shelf, .ref a0_rowSort, .ref a0_rowSize, .ref a0_rows, .ref a0_moved, .ref a0_shown, .ref a0_tape, .int 0, .ref a0_refused, .int 0, .ref a0_road, .int 0, .ref a0_bridge, .int 0, .ref a0_waggon, .int 0, .ref a0_part, .ref a0_asked, .ref a0_under, .int 0, .null, .int 0, .int 0, .int 0, .long 0, .int 0, .int 0, .ref a0_far, .int 0])), (a0_refused, .inl (E 0, 8, .inl (fun _ => 0)))] sz) (fun _ => [])) (va_A [(a0, .inr (7, [.ref a0_shelf, .ref a0_rowSort, .ref a0_rowSize, .ref a0_rows, .ref a0_moved, .ref a0_shown, .ref a0_tape, .int 0, .ref a0_refused, .int 0, .ref a0_road, .int 0, .ref a0_bridge, .int 0, .ref a0_waggon, .int 0, .ref a0_part, .ref a0_asked, .ref a0_under, .int 0, .null, .int 0, .int 0, .int 0, .long 0, .int 0, .int 0, .ref a0_far, .int 0])), (a0_refused, .inl (E 0, 8, .inl (fun _ => 0)))] sz)) 0 0 (va_A [(a0, .inr (7, [.ref a0_shelf, .ref a0_rowSort, .ref a0_rowSize, .ref a0_rows, .ref a0_moved, .ref a0_shown, .ref a0_tape, .int 0, .ref a0_refused, .int 0, .ref a0_road, .int 0, .ref a0_bridge, .int 0, .ref a0_waggon, .int 0, .ref a0_part, .ref a0_asked, .ref a0_under, .int 0, .null, .int 0, .int 0, .int 0, .long 0, .int 0, .int 0, .ref a0_far, .int 0])), (a0_refused, .inl (E 0, 8, .inl (fun _ => 0)))] sz) := by
  refine Met.ofW (cc := cX7_reach) (maxL := 6) (ret := (some .int)) (by decide) rfl ?_
  intro p e s m args below meth c s₁ B hml hv
  obtain ⟨rfl, hsz, hP, hK, hD0, hG⟩ := hv
  have hx := B.exec
  have hb := B.bytes
  have hr := B.returns
  have hts := atoms_spec (ws := (oh_w yX7_reach cX7_reach 6 (some .int))) B.pre
  have htg : ∀ w ∈ oh_t, w.before _ s = true := fun w h => hts w (List.mem_cons_of_mem _ h)
  have hown : s.vm.findClass RX7 = some m.cls := findClass_of_methodNamed B.named
  have hlocks := B.notSynchronized
  subst hsz
  have hD := hD0.self (sz := s.heap.size)
  generalize hAe : va_A [(a0, .inr (7, [.ref a0_shelf, .ref a0_rowSort, .ref a0_rowSize, .ref a0_rows, .ref a0_moved, .ref a0_shown, .ref a0_tape, .int 0, .ref a0_refused, .int 0, .ref a0_road, .int 0, .ref a0_bridge, .int 0, .ref a0_waggon, .int 0, .ref a0_part, .ref a0_asked, .ref a0_under, .int 0, .null, .int 0, .int 0, .int 0, .long 0, .int 0, .int 0, .ref a0_far, .int 0])), (a0_refused, .inl (E 0, 8, .inl (fun _ => 0)))] s.heap.size = A at hD hG ⊢
  have hA : ∀ q : Nat, s.heap.size ≤ q → A q := fun q h => by rw [← hAe]; exact Or.inr h
  have hS : va_S A s.heap s.heap [] := va_S.rf
  have hP : va_P D vwCl [(a0, .inr (7, [.ref a0_shelf, .ref a0_rowSort, .ref a0_rowSize, .ref a0_rows, .ref a0_moved, .ref a0_shown, .ref a0_tape, .int 0, .ref a0_refused, .int 0, .ref a0_road, .int 0, .ref a0_bridge, .int 0, .ref a0_waggon, .int 0, .ref a0_part, .ref a0_asked, .ref a0_under, .int 0, .null, .int 0, .int 0, .int 0, .long 0, .int 0, .int 0, .ref a0_far, .int 0])), (a0_refused, .inl (E 0, 8, .inl (fun _ => 0)))] s.heap := hP
  have hl := lv_entry ([.ref a0, .int v_a, .int v_b, .int v_c]) (n := 6) (Nat.le_of_ble_eq_true rfl)
  rw [lg_entry_eq]
  generalize (lg_sl ([.ref a0, .int v_a, .int v_b, .int v_c]) ++ List.replicate (6 - (lg_sl ([.ref a0, .int v_a, .int v_b, .int v_c])).length) Slot.unset).toArray = ls at hl ⊢
  have hl : lv_has ls 6 [(0, .ref a0), (1, .int v_a), (2, .int v_b), (3, .int v_c)] := hl
  refine lv_aload_n hx hb dX7_reach_0 rfl (lv_at hl 0 rfl) ?_
  refine lv_iload_n hx hb dX7_reach_1 rfl (lv_at hl 1 rfl) ?_
  refine lv_iload_n hx hb dX7_reach_2 rfl (lv_at hl 2 rfl) ?_
  refine oh_pV (As := [.int v_a, .int v_b]) (rest := []) (v := 0) ⟨hx, hb, hml, hown, htg⟩ (c_X7_isPack l D E G a0 v_a v_b a0_shelf a0_rowSort a0_rowSize a0_rows a0_moved a0_shown a0_tape a0_refused a0_road a0_bridge a0_waggon a0_part a0_asked a0_under a0_far) (cwV 2 htg (oh_gV q_1290 q_1292 q_50 q_73 q_1293) rfl rfl rfl pdVX7_isPack ⟨Nat.le_of_ble_eq_true rfl, Nat.le_of_ble_eq_true rfl⟩) hK (hP.sub (ws' := [(a0, .inr (7, [.ref a0_shelf, .ref a0_rowSort, .ref a0_rowSize, .ref a0_rows, .ref a0_moved, .ref a0_shown, .ref a0_tape, .int 0, .ref a0_refused, .int 0, .ref a0_road, .int 0, .ref a0_bridge, .int 0, .ref a0_waggon, .int 0, .ref a0_part, .ref a0_asked, .ref a0_under, .int 0, .null, .int 0, .int 0, .int 0, .long 0, .int 0, .int 0, .ref a0_far, .int 0]))]) [0] rfl) hG hS (va_recv hK hP (ci := 7) (q0 := 0) rfl rfl) rfl hl.1 rfl (Nat.le_of_ble_eq_true rfl) dX7_reach_3 ⟨Nat.le_of_ble_eq_true rfl, Nat.le_of_ble_eq_true rfl⟩ ?_
  refine lv_if_eq (tgt := 16) hx hb dX7_reach_6 (by decide) (fun _ => ?_) (fun c => absurd (show (0 : Int32) = 0 from by decide) c)
  refine lv_aload_n hx hb dX7_reach_16 rfl (lv_at hl 0 rfl) ?_
  refine lv_bipush (v := (-2)) hx hb dX7_reach_17 (by decide) ?_
  refine oh_mV (As := [.int (-2)]) (rest := []) (wr := []) ⟨hx, hb, hml, hown, htg⟩ (c_X7_refuse l D E G s.heap.size a0 (-2) a0_shelf a0_rowSort a0_rowSize a0_rows a0_moved a0_shown a0_tape a0_refused a0_road a0_bridge a0_waggon a0_part a0_asked a0_under a0_far (show vp_in (-(-2)) 8 by unfold vp_in; decide)) (cwV 1 htg (oh_gV q_1071 q_1073 q_29 q_73 q_1074) rfl rfl rfl pdVX7_refuse ⟨Nat.le_of_ble_eq_true rfl, Nat.le_of_ble_eq_true rfl⟩) hK hP hD hG hS hA [0, 1] [] rfl rfl (by decide) (by decide) (by decide) (va_recv hK hP (ci := 7) (q0 := 0) rfl rfl) rfl hl.1 rfl (Nat.le_of_ble_eq_true rfl) dX7_reach_19 ⟨Nat.le_of_ble_eq_true rfl, Nat.le_of_ble_eq_true rfl⟩ (fun r_1 u H locs hw hP hD hS => ?_)
  subst hw
  have hP : va_P D vwCl [(a0, .inr (7, [.ref a0_shelf, .ref a0_rowSort, .ref a0_rowSize, .ref a0_rows, .ref a0_moved, .ref a0_shown, .ref a0_tape, .int 0, .ref a0_refused, .int 0, .ref a0_road, .int 0, .ref a0_bridge, .int 0, .ref a0_waggon, .int 0, .ref a0_part, .ref a0_asked, .ref a0_under, .int 0, .null, .int 0, .int 0, .int 0, .long 0, .int 0, .int 0, .ref a0_far, .int 0]))] H := hP
  have hD : va_D A [(a0, .inr (7, [.ref a0_shelf, .ref a0_rowSort, .ref a0_rowSize, .ref a0_rows, .ref a0_moved, .ref a0_shown, .ref a0_tape, .int 0, .ref a0_refused, .int 0, .ref a0_road, .int 0, .ref a0_bridge, .int 0, .ref a0_waggon, .int 0, .ref a0_part, .ref a0_asked, .ref a0_under, .int 0, .null, .int 0, .int 0, .int 0, .long 0, .int 0, .int 0, .ref a0_far, .int 0]))] := hD
  refine W.widen (k := 0) (n := 0) (Nat.le_refl _) (Nat.le_refl _) ?_
  refine W.widen (k := 0) (n := 0) (Nat.le_of_ble_eq_true rfl) (Nat.le_of_ble_eq_true rfl) ?_
  exact W.iret (v := (-2)) hx hb hr (fun t ht hW => ⟨⟨(-2), (), rfl, rfl, ⟨by rw [ht]; exact hP.sub [] rfl, hD.sub [] (by decide) rfl⟩⟩, hS.F ht⟩) hS.2.2 dX7_reach_22
set_option maxHeartbeats 4000000 in
set_option maxRecDepth 100000 in
theorem c_X7_hang (l : Launch) (D : va_G) (E : Nat → ClassId) (G : Nat → Nat) (sz : Nat) (a0 : Nat) (v_a : Int32) (v_b : Int32) (v_c : Int32) (v_d : Int32) (a0_shelf : Nat) (a0_rowSort : Nat) (a0_rowSize : Nat) (a0_rows : Nat) (a0_moved : Nat) (a0_shown : Nat) (a0_tape : Nat) (a0_refused : Nat) (a0_road : Nat) (a0_bridge : Nat) (a0_waggon : Nat) (a0_part : Nat) (a0_asked : Nat) (a0_under : Nat) (a0_far : Nat) : Met l yX7_hang (oh_w yX7_hang cX7_hang 13 (some .int)) ({ frames := 3, cells := 0, slots := 0, locals := 68 }) (oh_Pm D E G [.ref a0, .int v_a, .int v_b, .int v_c, .int v_d] [(a0, .inr (7, [.ref a0_shelf, .ref a0_rowSort, .ref a0_rowSize, .ref a0_rows, .ref a0_moved, .ref a0_shown, .ref a0_tape, .int 0, .ref a0_refused, .int 0, .ref a0_road, .int 0, .ref a0_bridge, .int 0, .ref a0_waggon, .int 0, .ref a0_part, .ref a0_asked, .ref a0_under, .int 0, .null, .int 0, .int 0, .int 0, .long 0, .int 0, .int 0, .ref a0_far, .int 0])), (a0_refused, .inl (E 0, 8, .inl (fun _ => 0)))] sz) (va_Qi (fun r (_ : Unit) => r = (-2)) (oh_B D (va_A [(a0, .inr (7, [.ref a0_shelf, .ref a0_rowSort, .ref a0_rowSize, .ref a0_rows, .ref a0_moved, .ref a0_shown, .ref a0_tape, .int 0, .ref a0_refused, .int 0, .ref a0_road, .int 0, .ref a0_bridge, .int 0, .ref a0_waggon, .int 0, .ref a0_part, .ref a0_asked, .ref a0_under, .int 0, .null, .int 0, .int 0, .int 0, .long 0, .int 0, .int 0, .ref a0_far, .int 0])), (a0_refused, .inl (E 0, 8, .inl (fun _ => 0)))] sz) (fun _ => [])) (va_A [(a0, .inr (7, [.ref a0_shelf, .ref a0_rowSort, .ref a0_rowSize, .ref a0_rows, .ref a0_moved, .ref a0_shown, .ref a0_tape, .int 0, .ref a0_refused, .int 0, .ref a0_road, .int 0, .ref a0_bridge, .int 0, .ref a0_waggon, .int 0, .ref a0_part, .ref a0_asked, .ref a0_under, .int 0, .null, .int 0, .int 0, .int 0, .long 0, .int 0, .int 0, .ref a0_far, .int 0])), (a0_refused, .inl (E 0, 8, .inl (fun _ => 0)))] sz)) 0 0 (va_A [(a0, .inr (7, [.ref a0_shelf, .ref a0_rowSort, .ref a0_rowSize, .ref a0_rows, .ref a0_moved, .ref a0_shown, .ref a0_tape, .int 0, .ref a0_refused, .int 0, .ref a0_road, .int 0, .ref a0_bridge, .int 0, .ref a0_waggon, .int 0, .ref a0_part, .ref a0_asked, .ref a0_under, .int 0, .null, .int 0, .int 0, .int 0, .long 0, .int 0, .int 0, .ref a0_far, .int 0])), (a0_refused, .inl (E 0, 8, .inl (fun _ => 0)))] sz) := by
  refine Met.ofW (cc := cX7_hang) (maxL := 13) (ret := (some .int)) (by decide) rfl ?_
  intro p e s m args below meth c s₁ B hml hv
  obtain ⟨rfl, hsz, hP, hK, hD0, hG⟩ := hv
  have hx := B.exec
  have hb := B.bytes
  have hr := B.returns
  have hts := atoms_spec (ws := (oh_w yX7_hang cX7_hang 13 (some .int))) B.pre
  have htg : ∀ w ∈ oh_t, w.before _ s = true := fun w h => hts w (List.mem_cons_of_mem _ h)
  have hown : s.vm.findClass RX7 = some m.cls := findClass_of_methodNamed B.named
  have hlocks := B.notSynchronized
  subst hsz
  have hD := hD0.self (sz := s.heap.size)
  generalize hAe : va_A [(a0, .inr (7, [.ref a0_shelf, .ref a0_rowSort, .ref a0_rowSize, .ref a0_rows, .ref a0_moved, .ref a0_shown, .ref a0_tape, .int 0, .ref a0_refused, .int 0, .ref a0_road, .int 0, .ref a0_bridge, .int 0, .ref a0_waggon, .int 0, .ref a0_part, .ref a0_asked, .ref a0_under, .int 0, .null, .int 0, .int 0, .int 0, .long 0, .int 0, .int 0, .ref a0_far, .int 0])), (a0_refused, .inl (E 0, 8, .inl (fun _ => 0)))] s.heap.size = A at hD hG ⊢
  have hA : ∀ q : Nat, s.heap.size ≤ q → A q := fun q h => by rw [← hAe]; exact Or.inr h
  have hS : va_S A s.heap s.heap [] := va_S.rf
  have hP : va_P D vwCl [(a0, .inr (7, [.ref a0_shelf, .ref a0_rowSort, .ref a0_rowSize, .ref a0_rows, .ref a0_moved, .ref a0_shown, .ref a0_tape, .int 0, .ref a0_refused, .int 0, .ref a0_road, .int 0, .ref a0_bridge, .int 0, .ref a0_waggon, .int 0, .ref a0_part, .ref a0_asked, .ref a0_under, .int 0, .null, .int 0, .int 0, .int 0, .long 0, .int 0, .int 0, .ref a0_far, .int 0])), (a0_refused, .inl (E 0, 8, .inl (fun _ => 0)))] s.heap := hP
  have hl := lv_entry ([.ref a0, .int v_a, .int v_b, .int v_c, .int v_d]) (n := 13) (Nat.le_of_ble_eq_true rfl)
  rw [lg_entry_eq]
  generalize (lg_sl ([.ref a0, .int v_a, .int v_b, .int v_c, .int v_d]) ++ List.replicate (13 - (lg_sl ([.ref a0, .int v_a, .int v_b, .int v_c, .int v_d])).length) Slot.unset).toArray = ls at hl ⊢
  have hl : lv_has ls 13 [(0, .ref a0), (1, .int v_a), (2, .int v_b), (3, .int v_c), (4, .int v_d)] := hl
  refine lv_aload_n hx hb dX7_hang_0 rfl (lv_at hl 0 rfl) ?_
  refine lv_iload_n hx hb dX7_hang_1 rfl (lv_at hl 1 rfl) ?_
  refine lv_iload_n hx hb dX7_hang_2 rfl (lv_at hl 2 rfl) ?_
  refine oh_pV (As := [.int v_a, .int v_b]) (rest := []) (v := 0) ⟨hx, hb, hml, hown, htg⟩ (c_X7_isPack l D E G a0 v_a v_b a0_shelf a0_rowSort a0_rowSize a0_rows a0_moved a0_shown a0_tape a0_refused a0_road a0_bridge a0_waggon a0_part a0_asked a0_under a0_far) (cwV 2 htg (oh_gV q_1290 q_1292 q_50 q_73 q_1293) rfl rfl rfl pdVX7_isPack ⟨Nat.le_of_ble_eq_true rfl, Nat.le_of_ble_eq_true rfl⟩) hK (hP.sub (ws' := [(a0, .inr (7, [.ref a0_shelf, .ref a0_rowSort, .ref a0_rowSize, .ref a0_rows, .ref a0_moved, .ref a0_shown, .ref a0_tape, .int 0, .ref a0_refused, .int 0, .ref a0_road, .int 0, .ref a0_bridge, .int 0, .ref a0_waggon, .int 0, .ref a0_part, .ref a0_asked, .ref a0_under, .int 0, .null, .int 0, .int 0, .int 0, .long 0, .int 0, .int 0, .ref a0_far, .int 0]))]) [0] rfl) hG hS (va_recv hK hP (ci := 7) (q0 := 0) rfl rfl) rfl hl.1 rfl (Nat.le_of_ble_eq_true rfl) dX7_hang_3 ⟨Nat.le_of_ble_eq_true rfl, Nat.le_of_ble_eq_true rfl⟩ ?_
  refine lv_if_eq (tgt := 24) hx hb dX7_hang_6 (by decide) (fun _ => ?_) (fun c => absurd (show (0 : Int32) = 0 from by decide) c)
  refine lv_aload_n hx hb dX7_hang_24 rfl (lv_at hl 0 rfl) ?_
  refine lv_bipush (v := (-2)) hx hb dX7_hang_25 (by decide) ?_
  refine oh_mV (As := [.int (-2)]) (rest := []) (wr := []) ⟨hx, hb, hml, hown, htg⟩ (c_X7_refuse l D E G s.heap.size a0 (-2) a0_shelf a0_rowSort a0_rowSize a0_rows a0_moved a0_shown a0_tape a0_refused a0_road a0_bridge a0_waggon a0_part a0_asked a0_under a0_far (show vp_in (-(-2)) 8 by unfold vp_in; decide)) (cwV 1 htg (oh_gV q_1071 q_1073 q_29 q_73 q_1074) rfl rfl rfl pdVX7_refuse ⟨Nat.le_of_ble_eq_true rfl, Nat.le_of_ble_eq_true rfl⟩) hK hP hD hG hS hA [0, 1] [] rfl rfl (by decide) (by decide) (by decide) (va_recv hK hP (ci := 7) (q0 := 0) rfl rfl) rfl hl.1 rfl (Nat.le_of_ble_eq_true rfl) dX7_hang_27 ⟨Nat.le_of_ble_eq_true rfl, Nat.le_of_ble_eq_true rfl⟩ (fun r_1 u H locs hw hP hD hS => ?_)
  subst hw
  have hP : va_P D vwCl [(a0, .inr (7, [.ref a0_shelf, .ref a0_rowSort, .ref a0_rowSize, .ref a0_rows, .ref a0_moved, .ref a0_shown, .ref a0_tape, .int 0, .ref a0_refused, .int 0, .ref a0_road, .int 0, .ref a0_bridge, .int 0, .ref a0_waggon, .int 0, .ref a0_part, .ref a0_asked, .ref a0_under, .int 0, .null, .int 0, .int 0, .int 0, .long 0, .int 0, .int 0, .ref a0_far, .int 0]))] H := hP
  have hD : va_D A [(a0, .inr (7, [.ref a0_shelf, .ref a0_rowSort, .ref a0_rowSize, .ref a0_rows, .ref a0_moved, .ref a0_shown, .ref a0_tape, .int 0, .ref a0_refused, .int 0, .ref a0_road, .int 0, .ref a0_bridge, .int 0, .ref a0_waggon, .int 0, .ref a0_part, .ref a0_asked, .ref a0_under, .int 0, .null, .int 0, .int 0, .int 0, .long 0, .int 0, .int 0, .ref a0_far, .int 0]))] := hD
  refine W.widen (k := 0) (n := 0) (Nat.le_refl _) (Nat.le_refl _) ?_
  refine W.widen (k := 0) (n := 0) (Nat.le_of_ble_eq_true rfl) (Nat.le_of_ble_eq_true rfl) ?_
  exact W.iret (v := (-2)) hx hb hr (fun t ht hW => ⟨⟨(-2), (), rfl, rfl, ⟨by rw [ht]; exact hP.sub [] rfl, hD.sub [] (by decide) rfl⟩⟩, hS.F ht⟩) hS.2.2 dX7_hang_30
set_option maxHeartbeats 4000000 in
set_option maxRecDepth 100000 in
theorem c_X7_fewest (l : Launch) (D : va_G) (E : Nat → ClassId) (G : Nat → Nat) (sz : Nat) (a0 : Nat) (v_a : Int32) (v_b : Int32) (v_c : Int32) (a0_shelf : Nat) (a0_rowSort : Nat) (a0_rowSize : Nat) (a0_rows : Nat) (a0_moved : Nat) (a0_shown : Nat) (a0_tape : Nat) (a0_refused : Nat) (a0_road : Nat) (a0_bridge : Nat) (a0_waggon : Nat) (a0_part : Nat) (a0_asked : Nat) (a0_under : Nat) (a0_far : Nat) : Met l yX7_fewest (oh_w yX7_fewest cX7_fewest 6 (some .int)) ({ frames := 2, cells := 0, slots := 0, locals := 46 }) (oh_Pm D E G [.ref a0, .int v_a, .int v_b, .int v_c] [(a0, .inr (7, [.ref a0_shelf, .ref a0_rowSort, .ref a0_rowSize, .ref a0_rows, .ref a0_moved, .ref a0_shown, .ref a0_tape, .int 0, .ref a0_refused, .int 0, .ref a0_road, .int 0, .ref a0_bridge, .int 0, .ref a0_waggon, .int 0, .ref a0_part, .ref a0_asked, .ref a0_under, .int 0, .null, .int 0, .int 0, .int 0, .long 0, .int 0, .int 0, .ref a0_far, .int 0])), (a0_refused, .inl (E 0, 8, .inl (fun _ => 0)))] sz) (va_Qi (fun r (_ : Unit) => r = (-2)) (oh_B D (va_A [(a0, .inr (7, [.ref a0_shelf, .ref a0_rowSort, .ref a0_rowSize, .ref a0_rows, .ref a0_moved, .ref a0_shown, .ref a0_tape, .int 0, .ref a0_refused, .int 0, .ref a0_road, .int 0, .ref a0_bridge, .int 0, .ref a0_waggon, .int 0, .ref a0_part, .ref a0_asked, .ref a0_under, .int 0, .null, .int 0, .int 0, .int 0, .long 0, .int 0, .int 0, .ref a0_far, .int 0])), (a0_refused, .inl (E 0, 8, .inl (fun _ => 0)))] sz) (fun _ => [])) (va_A [(a0, .inr (7, [.ref a0_shelf, .ref a0_rowSort, .ref a0_rowSize, .ref a0_rows, .ref a0_moved, .ref a0_shown, .ref a0_tape, .int 0, .ref a0_refused, .int 0, .ref a0_road, .int 0, .ref a0_bridge, .int 0, .ref a0_waggon, .int 0, .ref a0_part, .ref a0_asked, .ref a0_under, .int 0, .null, .int 0, .int 0, .int 0, .long 0, .int 0, .int 0, .ref a0_far, .int 0])), (a0_refused, .inl (E 0, 8, .inl (fun _ => 0)))] sz)) 0 0 (va_A [(a0, .inr (7, [.ref a0_shelf, .ref a0_rowSort, .ref a0_rowSize, .ref a0_rows, .ref a0_moved, .ref a0_shown, .ref a0_tape, .int 0, .ref a0_refused, .int 0, .ref a0_road, .int 0, .ref a0_bridge, .int 0, .ref a0_waggon, .int 0, .ref a0_part, .ref a0_asked, .ref a0_under, .int 0, .null, .int 0, .int 0, .int 0, .long 0, .int 0, .int 0, .ref a0_far, .int 0])), (a0_refused, .inl (E 0, 8, .inl (fun _ => 0)))] sz) := by
  refine Met.ofW (cc := cX7_fewest) (maxL := 6) (ret := (some .int)) (by decide) rfl ?_
  intro p e s m args below meth c s₁ B hml hv
  obtain ⟨rfl, hsz, hP, hK, hD0, hG⟩ := hv
  have hx := B.exec
  have hb := B.bytes
  have hr := B.returns
  have hts := atoms_spec (ws := (oh_w yX7_fewest cX7_fewest 6 (some .int))) B.pre
  have htg : ∀ w ∈ oh_t, w.before _ s = true := fun w h => hts w (List.mem_cons_of_mem _ h)
  have hown : s.vm.findClass RX7 = some m.cls := findClass_of_methodNamed B.named
  have hlocks := B.notSynchronized
  subst hsz
  have hD := hD0.self (sz := s.heap.size)
  generalize hAe : va_A [(a0, .inr (7, [.ref a0_shelf, .ref a0_rowSort, .ref a0_rowSize, .ref a0_rows, .ref a0_moved, .ref a0_shown, .ref a0_tape, .int 0, .ref a0_refused, .int 0, .ref a0_road, .int 0, .ref a0_bridge, .int 0, .ref a0_waggon, .int 0, .ref a0_part, .ref a0_asked, .ref a0_under, .int 0, .null, .int 0, .int 0, .int 0, .long 0, .int 0, .int 0, .ref a0_far, .int 0])), (a0_refused, .inl (E 0, 8, .inl (fun _ => 0)))] s.heap.size = A at hD hG ⊢
  have hA : ∀ q : Nat, s.heap.size ≤ q → A q := fun q h => by rw [← hAe]; exact Or.inr h
  have hS : va_S A s.heap s.heap [] := va_S.rf
  have hP : va_P D vwCl [(a0, .inr (7, [.ref a0_shelf, .ref a0_rowSort, .ref a0_rowSize, .ref a0_rows, .ref a0_moved, .ref a0_shown, .ref a0_tape, .int 0, .ref a0_refused, .int 0, .ref a0_road, .int 0, .ref a0_bridge, .int 0, .ref a0_waggon, .int 0, .ref a0_part, .ref a0_asked, .ref a0_under, .int 0, .null, .int 0, .int 0, .int 0, .long 0, .int 0, .int 0, .ref a0_far, .int 0])), (a0_refused, .inl (E 0, 8, .inl (fun _ => 0)))] s.heap := hP
  have hl := lv_entry ([.ref a0, .int v_a, .int v_b, .int v_c]) (n := 6) (Nat.le_of_ble_eq_true rfl)
  rw [lg_entry_eq]
  generalize (lg_sl ([.ref a0, .int v_a, .int v_b, .int v_c]) ++ List.replicate (6 - (lg_sl ([.ref a0, .int v_a, .int v_b, .int v_c])).length) Slot.unset).toArray = ls at hl ⊢
  have hl : lv_has ls 6 [(0, .ref a0), (1, .int v_a), (2, .int v_b), (3, .int v_c)] := hl
  refine lv_aload_n hx hb dX7_fewest_0 rfl (lv_at hl 0 rfl) ?_
  refine lv_iload_n hx hb dX7_fewest_1 rfl (lv_at hl 1 rfl) ?_
  refine oh_pV (As := [.int v_a]) (rest := []) (v := 0) ⟨hx, hb, hml, hown, htg⟩ (k_X7_isWaggon l D E G a0 v_a a0_shelf a0_rowSort a0_rowSize a0_rows a0_moved a0_shown a0_tape a0_refused a0_road a0_bridge a0_waggon a0_part a0_asked a0_under a0_far) (cwV 1 htg (oh_gV q_1278 q_1280 q_48 q_73 q_1281) rfl rfl rfl pdVX7_isWaggon ⟨Nat.le_of_ble_eq_true rfl, Nat.le_of_ble_eq_true rfl⟩) hK (hP.sub (ws' := [(a0, .inr (7, [.ref a0_shelf, .ref a0_rowSort, .ref a0_rowSize, .ref a0_rows, .ref a0_moved, .ref a0_shown, .ref a0_tape, .int 0, .ref a0_refused, .int 0, .ref a0_road, .int 0, .ref a0_bridge, .int 0, .ref a0_waggon, .int 0, .ref a0_part, .ref a0_asked, .ref a0_under, .int 0, .null, .int 0, .int 0, .int 0, .long 0, .int 0, .int 0, .ref a0_far, .int 0]))]) [0] rfl) hG hS (va_recv hK hP (ci := 7) (q0 := 0) rfl rfl) rfl hl.1 rfl (Nat.le_of_ble_eq_true rfl) dX7_fewest_2 ⟨Nat.le_of_ble_eq_true rfl, Nat.le_of_ble_eq_true rfl⟩ ?_
  refine lv_if_eq (tgt := 22) hx hb dX7_fewest_5 (by decide) (fun _ => ?_) (fun c => absurd (show (0 : Int32) = 0 from by decide) c)
  refine lv_aload_n hx hb dX7_fewest_22 rfl (lv_at hl 0 rfl) ?_
  refine lv_bipush (v := (-2)) hx hb dX7_fewest_23 (by decide) ?_
  refine oh_mV (As := [.int (-2)]) (rest := []) (wr := []) ⟨hx, hb, hml, hown, htg⟩ (c_X7_refuse l D E G s.heap.size a0 (-2) a0_shelf a0_rowSort a0_rowSize a0_rows a0_moved a0_shown a0_tape a0_refused a0_road a0_bridge a0_waggon a0_part a0_asked a0_under a0_far (show vp_in (-(-2)) 8 by unfold vp_in; decide)) (cwV 1 htg (oh_gV q_1071 q_1073 q_29 q_73 q_1074) rfl rfl rfl pdVX7_refuse ⟨Nat.le_of_ble_eq_true rfl, Nat.le_of_ble_eq_true rfl⟩) hK hP hD hG hS hA [0, 1] [] rfl rfl (by decide) (by decide) (by decide) (va_recv hK hP (ci := 7) (q0 := 0) rfl rfl) rfl hl.1 rfl (Nat.le_of_ble_eq_true rfl) dX7_fewest_25 ⟨Nat.le_of_ble_eq_true rfl, Nat.le_of_ble_eq_true rfl⟩ (fun r_1 u H locs hw hP hD hS => ?_)
  subst hw
  have hP : va_P D vwCl [(a0, .inr (7, [.ref a0_shelf, .ref a0_rowSort, .ref a0_rowSize, .ref a0_rows, .ref a0_moved, .ref a0_shown, .ref a0_tape, .int 0, .ref a0_refused, .int 0, .ref a0_road, .int 0, .ref a0_bridge, .int 0, .ref a0_waggon, .int 0, .ref a0_part, .ref a0_asked, .ref a0_under, .int 0, .null, .int 0, .int 0, .int 0, .long 0, .int 0, .int 0, .ref a0_far, .int 0]))] H := hP
  have hD : va_D A [(a0, .inr (7, [.ref a0_shelf, .ref a0_rowSort, .ref a0_rowSize, .ref a0_rows, .ref a0_moved, .ref a0_shown, .ref a0_tape, .int 0, .ref a0_refused, .int 0, .ref a0_road, .int 0, .ref a0_bridge, .int 0, .ref a0_waggon, .int 0, .ref a0_part, .ref a0_asked, .ref a0_under, .int 0, .null, .int 0, .int 0, .int 0, .long 0, .int 0, .int 0, .ref a0_far, .int 0]))] := hD
  refine W.widen (k := 0) (n := 0) (Nat.le_refl _) (Nat.le_refl _) ?_
  refine W.widen (k := 0) (n := 0) (Nat.le_of_ble_eq_true rfl) (Nat.le_of_ble_eq_true rfl) ?_
  exact W.iret (v := (-2)) hx hb hr (fun t ht hW => ⟨⟨(-2), (), rfl, rfl, ⟨by rw [ht]; exact hP.sub [] rfl, hD.sub [] (by decide) rfl⟩⟩, hS.F ht⟩) hS.2.2 dX7_fewest_28
set_option maxHeartbeats 4000000 in
set_option maxRecDepth 100000 in
theorem c_X7_most (l : Launch) (D : va_G) (E : Nat → ClassId) (G : Nat → Nat) (sz : Nat) (a0 : Nat) (v_a : Int32) (v_b : Int32) (v_c : Int32) (a0_shelf : Nat) (a0_rowSort : Nat) (a0_rowSize : Nat) (a0_rows : Nat) (a0_moved : Nat) (a0_shown : Nat) (a0_tape : Nat) (a0_refused : Nat) (a0_road : Nat) (a0_bridge : Nat) (a0_waggon : Nat) (a0_part : Nat) (a0_asked : Nat) (a0_under : Nat) (a0_far : Nat) : Met l yX7_most (oh_w yX7_most cX7_most 8 (some .int)) ({ frames := 2, cells := 0, slots := 0, locals := 46 }) (oh_Pm D E G [.ref a0, .int v_a, .int v_b, .int v_c] [(a0, .inr (7, [.ref a0_shelf, .ref a0_rowSort, .ref a0_rowSize, .ref a0_rows, .ref a0_moved, .ref a0_shown, .ref a0_tape, .int 0, .ref a0_refused, .int 0, .ref a0_road, .int 0, .ref a0_bridge, .int 0, .ref a0_waggon, .int 0, .ref a0_part, .ref a0_asked, .ref a0_under, .int 0, .null, .int 0, .int 0, .int 0, .long 0, .int 0, .int 0, .ref a0_far, .int 0])), (a0_refused, .inl (E 0, 8, .inl (fun _ => 0)))] sz) (va_Qi (fun r (_ : Unit) => r = (-2)) (oh_B D (va_A [(a0, .inr (7, [.ref a0_shelf, .ref a0_rowSort, .ref a0_rowSize, .ref a0_rows, .ref a0_moved, .ref a0_shown, .ref a0_tape, .int 0, .ref a0_refused, .int 0, .ref a0_road, .int 0, .ref a0_bridge, .int 0, .ref a0_waggon, .int 0, .ref a0_part, .ref a0_asked, .ref a0_under, .int 0, .null, .int 0, .int 0, .int 0, .long 0, .int 0, .int 0, .ref a0_far, .int 0])), (a0_refused, .inl (E 0, 8, .inl (fun _ => 0)))] sz) (fun _ => [])) (va_A [(a0, .inr (7, [.ref a0_shelf, .ref a0_rowSort, .ref a0_rowSize, .ref a0_rows, .ref a0_moved, .ref a0_shown, .ref a0_tape, .int 0, .ref a0_refused, .int 0, .ref a0_road, .int 0, .ref a0_bridge, .int 0, .ref a0_waggon, .int 0, .ref a0_part, .ref a0_asked, .ref a0_under, .int 0, .null, .int 0, .int 0, .int 0, .long 0, .int 0, .int 0, .ref a0_far, .int 0])), (a0_refused, .inl (E 0, 8, .inl (fun _ => 0)))] sz)) 0 0 (va_A [(a0, .inr (7, [.ref a0_shelf, .ref a0_rowSort, .ref a0_rowSize, .ref a0_rows, .ref a0_moved, .ref a0_shown, .ref a0_tape, .int 0, .ref a0_refused, .int 0, .ref a0_road, .int 0, .ref a0_bridge, .int 0, .ref a0_waggon, .int 0, .ref a0_part, .ref a0_asked, .ref a0_under, .int 0, .null, .int 0, .int 0, .int 0, .long 0, .int 0, .int 0, .ref a0_far, .int 0])), (a0_refused, .inl (E 0, 8, .inl (fun _ => 0)))] sz) := by
  refine Met.ofW (cc := cX7_most) (maxL := 8) (ret := (some .int)) (by decide) rfl ?_
  intro p e s m args below meth c s₁ B hml hv
  obtain ⟨rfl, hsz, hP, hK, hD0, hG⟩ := hv
  have hx := B.exec
  have hb := B.bytes
  have hr := B.returns
  have hts := atoms_spec (ws := (oh_w yX7_most cX7_most 8 (some .int))) B.pre
  have htg : ∀ w ∈ oh_t, w.before _ s = true := fun w h => hts w (List.mem_cons_of_mem _ h)
  have hown : s.vm.findClass RX7 = some m.cls := findClass_of_methodNamed B.named
  have hlocks := B.notSynchronized
  subst hsz
  have hD := hD0.self (sz := s.heap.size)
  generalize hAe : va_A [(a0, .inr (7, [.ref a0_shelf, .ref a0_rowSort, .ref a0_rowSize, .ref a0_rows, .ref a0_moved, .ref a0_shown, .ref a0_tape, .int 0, .ref a0_refused, .int 0, .ref a0_road, .int 0, .ref a0_bridge, .int 0, .ref a0_waggon, .int 0, .ref a0_part, .ref a0_asked, .ref a0_under, .int 0, .null, .int 0, .int 0, .int 0, .long 0, .int 0, .int 0, .ref a0_far, .int 0])), (a0_refused, .inl (E 0, 8, .inl (fun _ => 0)))] s.heap.size = A at hD hG ⊢
  have hA : ∀ q : Nat, s.heap.size ≤ q → A q := fun q h => by rw [← hAe]; exact Or.inr h
  have hS : va_S A s.heap s.heap [] := va_S.rf
  have hP : va_P D vwCl [(a0, .inr (7, [.ref a0_shelf, .ref a0_rowSort, .ref a0_rowSize, .ref a0_rows, .ref a0_moved, .ref a0_shown, .ref a0_tape, .int 0, .ref a0_refused, .int 0, .ref a0_road, .int 0, .ref a0_bridge, .int 0, .ref a0_waggon, .int 0, .ref a0_part, .ref a0_asked, .ref a0_under, .int 0, .null, .int 0, .int 0, .int 0, .long 0, .int 0, .int 0, .ref a0_far, .int 0])), (a0_refused, .inl (E 0, 8, .inl (fun _ => 0)))] s.heap := hP
  have hl := lv_entry ([.ref a0, .int v_a, .int v_b, .int v_c]) (n := 8) (Nat.le_of_ble_eq_true rfl)
  rw [lg_entry_eq]
  generalize (lg_sl ([.ref a0, .int v_a, .int v_b, .int v_c]) ++ List.replicate (8 - (lg_sl ([.ref a0, .int v_a, .int v_b, .int v_c])).length) Slot.unset).toArray = ls at hl ⊢
  have hl : lv_has ls 8 [(0, .ref a0), (1, .int v_a), (2, .int v_b), (3, .int v_c)] := hl
  refine lv_aload_n hx hb dX7_most_0 rfl (lv_at hl 0 rfl) ?_
  refine lv_iload_n hx hb dX7_most_1 rfl (lv_at hl 1 rfl) ?_
  refine oh_pV (As := [.int v_a]) (rest := []) (v := 0) ⟨hx, hb, hml, hown, htg⟩ (k_X7_isWaggon l D E G a0 v_a a0_shelf a0_rowSort a0_rowSize a0_rows a0_moved a0_shown a0_tape a0_refused a0_road a0_bridge a0_waggon a0_part a0_asked a0_under a0_far) (cwV 1 htg (oh_gV q_1278 q_1280 q_48 q_73 q_1281) rfl rfl rfl pdVX7_isWaggon ⟨Nat.le_of_ble_eq_true rfl, Nat.le_of_ble_eq_true rfl⟩) hK (hP.sub (ws' := [(a0, .inr (7, [.ref a0_shelf, .ref a0_rowSort, .ref a0_rowSize, .ref a0_rows, .ref a0_moved, .ref a0_shown, .ref a0_tape, .int 0, .ref a0_refused, .int 0, .ref a0_road, .int 0, .ref a0_bridge, .int 0, .ref a0_waggon, .int 0, .ref a0_part, .ref a0_asked, .ref a0_under, .int 0, .null, .int 0, .int 0, .int 0, .long 0, .int 0, .int 0, .ref a0_far, .int 0]))]) [0] rfl) hG hS (va_recv hK hP (ci := 7) (q0 := 0) rfl rfl) rfl hl.1 rfl (Nat.le_of_ble_eq_true rfl) dX7_most_2 ⟨Nat.le_of_ble_eq_true rfl, Nat.le_of_ble_eq_true rfl⟩ ?_
  refine lv_if_eq (tgt := 22) hx hb dX7_most_5 (by decide) (fun _ => ?_) (fun c => absurd (show (0 : Int32) = 0 from by decide) c)
  refine lv_aload_n hx hb dX7_most_22 rfl (lv_at hl 0 rfl) ?_
  refine lv_bipush (v := (-2)) hx hb dX7_most_23 (by decide) ?_
  refine oh_mV (As := [.int (-2)]) (rest := []) (wr := []) ⟨hx, hb, hml, hown, htg⟩ (c_X7_refuse l D E G s.heap.size a0 (-2) a0_shelf a0_rowSort a0_rowSize a0_rows a0_moved a0_shown a0_tape a0_refused a0_road a0_bridge a0_waggon a0_part a0_asked a0_under a0_far (show vp_in (-(-2)) 8 by unfold vp_in; decide)) (cwV 1 htg (oh_gV q_1071 q_1073 q_29 q_73 q_1074) rfl rfl rfl pdVX7_refuse ⟨Nat.le_of_ble_eq_true rfl, Nat.le_of_ble_eq_true rfl⟩) hK hP hD hG hS hA [0, 1] [] rfl rfl (by decide) (by decide) (by decide) (va_recv hK hP (ci := 7) (q0 := 0) rfl rfl) rfl hl.1 rfl (Nat.le_of_ble_eq_true rfl) dX7_most_25 ⟨Nat.le_of_ble_eq_true rfl, Nat.le_of_ble_eq_true rfl⟩ (fun r_1 u H locs hw hP hD hS => ?_)
  subst hw
  have hP : va_P D vwCl [(a0, .inr (7, [.ref a0_shelf, .ref a0_rowSort, .ref a0_rowSize, .ref a0_rows, .ref a0_moved, .ref a0_shown, .ref a0_tape, .int 0, .ref a0_refused, .int 0, .ref a0_road, .int 0, .ref a0_bridge, .int 0, .ref a0_waggon, .int 0, .ref a0_part, .ref a0_asked, .ref a0_under, .int 0, .null, .int 0, .int 0, .int 0, .long 0, .int 0, .int 0, .ref a0_far, .int 0]))] H := hP
  have hD : va_D A [(a0, .inr (7, [.ref a0_shelf, .ref a0_rowSort, .ref a0_rowSize, .ref a0_rows, .ref a0_moved, .ref a0_shown, .ref a0_tape, .int 0, .ref a0_refused, .int 0, .ref a0_road, .int 0, .ref a0_bridge, .int 0, .ref a0_waggon, .int 0, .ref a0_part, .ref a0_asked, .ref a0_under, .int 0, .null, .int 0, .int 0, .int 0, .long 0, .int 0, .int 0, .ref a0_far, .int 0]))] := hD
  refine W.widen (k := 0) (n := 0) (Nat.le_refl _) (Nat.le_refl _) ?_
  refine W.widen (k := 0) (n := 0) (Nat.le_of_ble_eq_true rfl) (Nat.le_of_ble_eq_true rfl) ?_
  exact W.iret (v := (-2)) hx hb hr (fun t ht hW => ⟨⟨(-2), (), rfl, rfl, ⟨by rw [ht]; exact hP.sub [] rfl, hD.sub [] (by decide) rfl⟩⟩, hS.F ht⟩) hS.2.2 dX7_most_28
set_option maxHeartbeats 4000000 in
set_option maxRecDepth 100000 in
theorem c_X7_frost (l : Launch) (D : va_G) (E : Nat → ClassId) (G : Nat → Nat) (sz : Nat) (a0 : Nat) (v_a : Int32) (v_b : Int32) (v_c : Int32) (v_d : Int32) (v_e : Int32) (v_f : Int32) (v_g : Int32) (a0_shelf : Nat) (a0_rowSort : Nat) (a0_rowSize : Nat) (a0_rows : Nat) (a0_moved : Nat) (a0_shown : Nat) (a0_tape : Nat) (a0_refused : Nat) (a0_road : Nat) (a0_bridge : Nat) (a0_waggon : Nat) (a0_part : Nat) (a0_asked : Nat) (a0_under : Nat) (a0_far : Nat) : Met l yX7_frost (oh_w yX7_frost cX7_frost 19 (some .long)) ({ frames := 3, cells := 0, slots := 0, locals := 68 }) (oh_Pm D E G [.ref a0, .int v_a, .int v_b, .int v_c, .int v_d, .int v_e, .int v_f, .int v_g] [(a0, .inr (7, [.ref a0_shelf, .ref a0_rowSort, .ref a0_rowSize, .ref a0_rows, .ref a0_moved, .ref a0_shown, .ref a0_tape, .int 0, .ref a0_refused, .int 0, .ref a0_road, .int 0, .ref a0_bridge, .int 0, .ref a0_waggon, .int 0, .ref a0_part, .ref a0_asked, .ref a0_under, .int 0, .null, .int 0, .int 0, .int 0, .long 0, .int 0, .int 0, .ref a0_far, .int 0])), (a0_refused, .inl (E 0, 8, .inl (fun _ => 0)))] sz) (va_Ql (fun r (_ : Unit) => r = (-2)) (oh_B D (va_A [(a0, .inr (7, [.ref a0_shelf, .ref a0_rowSort, .ref a0_rowSize, .ref a0_rows, .ref a0_moved, .ref a0_shown, .ref a0_tape, .int 0, .ref a0_refused, .int 0, .ref a0_road, .int 0, .ref a0_bridge, .int 0, .ref a0_waggon, .int 0, .ref a0_part, .ref a0_asked, .ref a0_under, .int 0, .null, .int 0, .int 0, .int 0, .long 0, .int 0, .int 0, .ref a0_far, .int 0])), (a0_refused, .inl (E 0, 8, .inl (fun _ => 0)))] sz) (fun _ => [])) (va_A [(a0, .inr (7, [.ref a0_shelf, .ref a0_rowSort, .ref a0_rowSize, .ref a0_rows, .ref a0_moved, .ref a0_shown, .ref a0_tape, .int 0, .ref a0_refused, .int 0, .ref a0_road, .int 0, .ref a0_bridge, .int 0, .ref a0_waggon, .int 0, .ref a0_part, .ref a0_asked, .ref a0_under, .int 0, .null, .int 0, .int 0, .int 0, .long 0, .int 0, .int 0, .ref a0_far, .int 0])), (a0_refused, .inl (E 0, 8, .inl (fun _ => 0)))] sz)) 0 0 (va_A [(a0, .inr (7, [.ref a0_shelf, .ref a0_rowSort, .ref a0_rowSize, .ref a0_rows, .ref a0_moved, .ref a0_shown, .ref a0_tape, .int 0, .ref a0_refused, .int 0, .ref a0_road, .int 0, .ref a0_bridge, .int 0, .ref a0_waggon, .int 0, .ref a0_part, .ref a0_asked, .ref a0_under, .int 0, .null, .int 0, .int 0, .int 0, .long 0, .int 0, .int 0, .ref a0_far, .int 0])), (a0_refused, .inl (E 0, 8, .inl (fun _ => 0)))] sz) := by
  refine Met.ofW (cc := cX7_frost) (maxL := 19) (ret := (some .long)) (by decide) rfl ?_
  intro p e s m args below meth c s₁ B hml hv
  obtain ⟨rfl, hsz, hP, hK, hD0, hG⟩ := hv
  have hx := B.exec
  have hb := B.bytes
  have hr := B.returns
  have hts := atoms_spec (ws := (oh_w yX7_frost cX7_frost 19 (some .long))) B.pre
  have htg : ∀ w ∈ oh_t, w.before _ s = true := fun w h => hts w (List.mem_cons_of_mem _ h)
  have hown : s.vm.findClass RX7 = some m.cls := findClass_of_methodNamed B.named
  have hlocks := B.notSynchronized
  subst hsz
  have hD := hD0.self (sz := s.heap.size)
  generalize hAe : va_A [(a0, .inr (7, [.ref a0_shelf, .ref a0_rowSort, .ref a0_rowSize, .ref a0_rows, .ref a0_moved, .ref a0_shown, .ref a0_tape, .int 0, .ref a0_refused, .int 0, .ref a0_road, .int 0, .ref a0_bridge, .int 0, .ref a0_waggon, .int 0, .ref a0_part, .ref a0_asked, .ref a0_under, .int 0, .null, .int 0, .int 0, .int 0, .long 0, .int 0, .int 0, .ref a0_far, .int 0])), (a0_refused, .inl (E 0, 8, .inl (fun _ => 0)))] s.heap.size = A at hD hG ⊢
  have hA : ∀ q : Nat, s.heap.size ≤ q → A q := fun q h => by rw [← hAe]; exact Or.inr h
  have hS : va_S A s.heap s.heap [] := va_S.rf
  have hP : va_P D vwCl [(a0, .inr (7, [.ref a0_shelf, .ref a0_rowSort, .ref a0_rowSize, .ref a0_rows, .ref a0_moved, .ref a0_shown, .ref a0_tape, .int 0, .ref a0_refused, .int 0, .ref a0_road, .int 0, .ref a0_bridge, .int 0, .ref a0_waggon, .int 0, .ref a0_part, .ref a0_asked, .ref a0_under, .int 0, .null, .int 0, .int 0, .int 0, .long 0, .int 0, .int 0, .ref a0_far, .int 0])), (a0_refused, .inl (E 0, 8, .inl (fun _ => 0)))] s.heap := hP
  have hl := lv_entry ([.ref a0, .int v_a, .int v_b, .int v_c, .int v_d, .int v_e, .int v_f, .int v_g]) (n := 19) (Nat.le_of_ble_eq_true rfl)
  rw [lg_entry_eq]
  generalize (lg_sl ([.ref a0, .int v_a, .int v_b, .int v_c, .int v_d, .int v_e, .int v_f, .int v_g]) ++ List.replicate (19 - (lg_sl ([.ref a0, .int v_a, .int v_b, .int v_c, .int v_d, .int v_e, .int v_f, .int v_g])).length) Slot.unset).toArray = ls at hl ⊢
  have hl : lv_has ls 19 [(0, .ref a0), (1, .int v_a), (2, .int v_b), (3, .int v_c), (4, .int v_d), (5, .int v_e), (6, .int v_f), (7, .int v_g)] := hl
  refine lv_aload_n hx hb dX7_frost_0 rfl (lv_at hl 0 rfl) ?_
  refine lv_iload_n hx hb dX7_frost_1 rfl (lv_at hl 1 rfl) ?_
  refine lv_iload_n hx hb dX7_frost_2 rfl (lv_at hl 2 rfl) ?_
  refine oh_pV (As := [.int v_a, .int v_b]) (rest := []) (v := 0) ⟨hx, hb, hml, hown, htg⟩ (c_X7_isPack l D E G a0 v_a v_b a0_shelf a0_rowSort a0_rowSize a0_rows a0_moved a0_shown a0_tape a0_refused a0_road a0_bridge a0_waggon a0_part a0_asked a0_under a0_far) (cwV 2 htg (oh_gV q_1290 q_1292 q_50 q_73 q_1293) rfl rfl rfl pdVX7_isPack ⟨Nat.le_of_ble_eq_true rfl, Nat.le_of_ble_eq_true rfl⟩) hK (hP.sub (ws' := [(a0, .inr (7, [.ref a0_shelf, .ref a0_rowSort, .ref a0_rowSize, .ref a0_rows, .ref a0_moved, .ref a0_shown, .ref a0_tape, .int 0, .ref a0_refused, .int 0, .ref a0_road, .int 0, .ref a0_bridge, .int 0, .ref a0_waggon, .int 0, .ref a0_part, .ref a0_asked, .ref a0_under, .int 0, .null, .int 0, .int 0, .int 0, .long 0, .int 0, .int 0, .ref a0_far, .int 0]))]) [0] rfl) hG hS (va_recv hK hP (ci := 7) (q0 := 0) rfl rfl) rfl hl.1 rfl (Nat.le_of_ble_eq_true rfl) dX7_frost_3 ⟨Nat.le_of_ble_eq_true rfl, Nat.le_of_ble_eq_true rfl⟩ ?_
  refine lv_if_eq (tgt := 41) hx hb dX7_frost_6 (by decide) (fun _ => ?_) (fun c => absurd (show (0 : Int32) = 0 from by decide) c)
  refine lv_iconst (v := 0) hx hb dX7_frost_41 (by decide) ?_
  refine lv_istore (lv' := [(8, .int 0), (0, .ref a0), (1, .int v_a), (2, .int v_b), (3, .int v_c), (4, .int v_d), (5, .int v_e), (6, .int v_f), (7, .int v_g)]) hx hb dX7_frost_42 hl (by decide) rfl (fun ls hl => ?_)
  refine lv_iload hx hb dX7_frost_44 (lv_at hl 0 rfl) ?_
  refine lv_if_eq (tgt := 75) hx hb dX7_frost_46 (by decide) (fun _ => ?_) (fun c => absurd (show (0 : Int32) = 0 from by decide) c)
  refine lv_aload_n hx hb dX7_frost_75 rfl (lv_at hl 1 rfl) ?_
  refine lv_bipush (v := (-2)) hx hb dX7_frost_76 (by decide) ?_
  refine oh_mV (As := [.int (-2)]) (rest := []) (wr := []) ⟨hx, hb, hml, hown, htg⟩ (c_X7_refuse l D E G s.heap.size a0 (-2) a0_shelf a0_rowSort a0_rowSize a0_rows a0_moved a0_shown a0_tape a0_refused a0_road a0_bridge a0_waggon a0_part a0_asked a0_under a0_far (show vp_in (-(-2)) 8 by unfold vp_in; decide)) (cwV 1 htg (oh_gV q_1071 q_1073 q_29 q_73 q_1074) rfl rfl rfl pdVX7_refuse ⟨Nat.le_of_ble_eq_true rfl, Nat.le_of_ble_eq_true rfl⟩) hK hP hD hG hS hA [0, 1] [] rfl rfl (by decide) (by decide) (by decide) (va_recv hK hP (ci := 7) (q0 := 0) rfl rfl) rfl hl.1 rfl (Nat.le_of_ble_eq_true rfl) dX7_frost_78 ⟨Nat.le_of_ble_eq_true rfl, Nat.le_of_ble_eq_true rfl⟩ (fun r_1 u H locs hw hP hD hS => ?_)
  subst hw
  have hP : va_P D vwCl [(a0, .inr (7, [.ref a0_shelf, .ref a0_rowSort, .ref a0_rowSize, .ref a0_rows, .ref a0_moved, .ref a0_shown, .ref a0_tape, .int 0, .ref a0_refused, .int 0, .ref a0_road, .int 0, .ref a0_bridge, .int 0, .ref a0_waggon, .int 0, .ref a0_part, .ref a0_asked, .ref a0_under, .int 0, .null, .int 0, .int 0, .int 0, .long 0, .int 0, .int 0, .ref a0_far, .int 0]))] H := hP
  have hD : va_D A [(a0, .inr (7, [.ref a0_shelf, .ref a0_rowSort, .ref a0_rowSize, .ref a0_rows, .ref a0_moved, .ref a0_shown, .ref a0_tape, .int 0, .ref a0_refused, .int 0, .ref a0_road, .int 0, .ref a0_bridge, .int 0, .ref a0_waggon, .int 0, .ref a0_part, .ref a0_asked, .ref a0_under, .int 0, .null, .int 0, .int 0, .int 0, .long 0, .int 0, .int 0, .ref a0_far, .int 0]))] := hD
  refine W.widen (k := 0) (n := 0) (Nat.le_refl _) (Nat.le_refl _) ?_
  refine lv_i2l (v := (-2)) hx hb dX7_frost_81 (by decide) ?_
  refine W.widen (k := 0) (n := 0) (Nat.le_of_ble_eq_true rfl) (Nat.le_of_ble_eq_true rfl) ?_
  exact W.lret (v := (-2)) hx hb hr (fun t ht hW => ⟨⟨(-2), (), rfl, rfl, ⟨by rw [ht]; exact hP.sub [] rfl, hD.sub [] (by decide) rfl⟩⟩, hS.F ht⟩) hS.2.2 dX7_frost_82
set_option maxHeartbeats 4000000 in
set_option maxRecDepth 100000 in
theorem c_X7_begin (l : Launch) (D : va_G) (E : Nat → ClassId) (G : Nat → Nat) (sz : Nat) (a0 : Nat) (v_a : Int32) (v_b : Int32) (v_c : Int32) (v_d : Int32) (a0_shelf : Nat) (a0_rowSort : Nat) (a0_rowSize : Nat) (a0_rows : Nat) (a0_moved : Nat) (a0_shown : Nat) (a0_tape : Nat) (a0_refused : Nat) (a0_road : Nat) (a0_bridge : Nat) (a0_waggon : Nat) (a0_part : Nat) (a0_asked : Nat) (a0_under : Nat) (a0_far : Nat) : Met l yX7_begin (oh_w yX7_begin cX7_begin 5 (some .int)) ({ frames := 3, cells := 0, slots := 0, locals := 68 }) (oh_Pm D E G [.ref a0, .int v_a, .int v_b, .int v_c, .int v_d] [(a0, .inr (7, [.ref a0_shelf, .ref a0_rowSort, .ref a0_rowSize, .ref a0_rows, .ref a0_moved, .ref a0_shown, .ref a0_tape, .int 0, .ref a0_refused, .int 0, .ref a0_road, .int 0, .ref a0_bridge, .int 0, .ref a0_waggon, .int 0, .ref a0_part, .ref a0_asked, .ref a0_under, .int 0, .null, .int 0, .int 0, .int 0, .long 0, .int 0, .int 0, .ref a0_far, .int 0])), (a0_refused, .inl (E 0, 8, .inl (fun _ => 0)))] sz) (va_Qi (fun r (_ : Unit) => r = (-2)) (oh_B D (va_A [(a0, .inr (7, [.ref a0_shelf, .ref a0_rowSort, .ref a0_rowSize, .ref a0_rows, .ref a0_moved, .ref a0_shown, .ref a0_tape, .int 0, .ref a0_refused, .int 0, .ref a0_road, .int 0, .ref a0_bridge, .int 0, .ref a0_waggon, .int 0, .ref a0_part, .ref a0_asked, .ref a0_under, .int 0, .null, .int 0, .int 0, .int 0, .long 0, .int 0, .int 0, .ref a0_far, .int 0])), (a0_refused, .inl (E 0, 8, .inl (fun _ => 0)))] sz) (fun _ => [])) (va_A [(a0, .inr (7, [.ref a0_shelf, .ref a0_rowSort, .ref a0_rowSize, .ref a0_rows, .ref a0_moved, .ref a0_shown, .ref a0_tape, .int 0, .ref a0_refused, .int 0, .ref a0_road, .int 0, .ref a0_bridge, .int 0, .ref a0_waggon, .int 0, .ref a0_part, .ref a0_asked, .ref a0_under, .int 0, .null, .int 0, .int 0, .int 0, .long 0, .int 0, .int 0, .ref a0_far, .int 0])), (a0_refused, .inl (E 0, 8, .inl (fun _ => 0)))] sz)) 0 0 (va_A [(a0, .inr (7, [.ref a0_shelf, .ref a0_rowSort, .ref a0_rowSize, .ref a0_rows, .ref a0_moved, .ref a0_shown, .ref a0_tape, .int 0, .ref a0_refused, .int 0, .ref a0_road, .int 0, .ref a0_bridge, .int 0, .ref a0_waggon, .int 0, .ref a0_part, .ref a0_asked, .ref a0_under, .int 0, .null, .int 0, .int 0, .int 0, .long 0, .int 0, .int 0, .ref a0_far, .int 0])), (a0_refused, .inl (E 0, 8, .inl (fun _ => 0)))] sz) := by
  refine Met.ofW (cc := cX7_begin) (maxL := 5) (ret := (some .int)) (by decide) rfl ?_
  intro p e s m args below meth c s₁ B hml hv
  obtain ⟨rfl, hsz, hP, hK, hD0, hG⟩ := hv
  have hx := B.exec
  have hb := B.bytes
  have hr := B.returns
  have hts := atoms_spec (ws := (oh_w yX7_begin cX7_begin 5 (some .int))) B.pre
  have htg : ∀ w ∈ oh_t, w.before _ s = true := fun w h => hts w (List.mem_cons_of_mem _ h)
  have hown : s.vm.findClass RX7 = some m.cls := findClass_of_methodNamed B.named
  have hlocks := B.notSynchronized
  subst hsz
  have hD := hD0.self (sz := s.heap.size)
  generalize hAe : va_A [(a0, .inr (7, [.ref a0_shelf, .ref a0_rowSort, .ref a0_rowSize, .ref a0_rows, .ref a0_moved, .ref a0_shown, .ref a0_tape, .int 0, .ref a0_refused, .int 0, .ref a0_road, .int 0, .ref a0_bridge, .int 0, .ref a0_waggon, .int 0, .ref a0_part, .ref a0_asked, .ref a0_under, .int 0, .null, .int 0, .int 0, .int 0, .long 0, .int 0, .int 0, .ref a0_far, .int 0])), (a0_refused, .inl (E 0, 8, .inl (fun _ => 0)))] s.heap.size = A at hD hG ⊢
  have hA : ∀ q : Nat, s.heap.size ≤ q → A q := fun q h => by rw [← hAe]; exact Or.inr h
  have hS : va_S A s.heap s.heap [] := va_S.rf
  have hP : va_P D vwCl [(a0, .inr (7, [.ref a0_shelf, .ref a0_rowSort, .ref a0_rowSize, .ref a0_rows, .ref a0_moved, .ref a0_shown, .ref a0_tape, .int 0, .ref a0_refused, .int 0, .ref a0_road, .int 0, .ref a0_bridge, .int 0, .ref a0_waggon, .int 0, .ref a0_part, .ref a0_asked, .ref a0_under, .int 0, .null, .int 0, .int 0, .int 0, .long 0, .int 0, .int 0, .ref a0_far, .int 0])), (a0_refused, .inl (E 0, 8, .inl (fun _ => 0)))] s.heap := hP
  have hl := lv_entry ([.ref a0, .int v_a, .int v_b, .int v_c, .int v_d]) (n := 5) (Nat.le_of_ble_eq_true rfl)
  rw [lg_entry_eq]
  generalize (lg_sl ([.ref a0, .int v_a, .int v_b, .int v_c, .int v_d]) ++ List.replicate (5 - (lg_sl ([.ref a0, .int v_a, .int v_b, .int v_c, .int v_d])).length) Slot.unset).toArray = ls at hl ⊢
  have hl : lv_has ls 5 [(0, .ref a0), (1, .int v_a), (2, .int v_b), (3, .int v_c), (4, .int v_d)] := hl
  refine lv_aload_n hx hb dX7_begin_0 rfl (lv_at hl 0 rfl) ?_
  refine lv_iload_n hx hb dX7_begin_1 rfl (lv_at hl 1 rfl) ?_
  refine lv_iload_n hx hb dX7_begin_2 rfl (lv_at hl 2 rfl) ?_
  refine oh_pV (As := [.int v_a, .int v_b]) (rest := []) (v := 0) ⟨hx, hb, hml, hown, htg⟩ (c_X7_isPack l D E G a0 v_a v_b a0_shelf a0_rowSort a0_rowSize a0_rows a0_moved a0_shown a0_tape a0_refused a0_road a0_bridge a0_waggon a0_part a0_asked a0_under a0_far) (cwV 2 htg (oh_gV q_1290 q_1292 q_50 q_73 q_1293) rfl rfl rfl pdVX7_isPack ⟨Nat.le_of_ble_eq_true rfl, Nat.le_of_ble_eq_true rfl⟩) hK (hP.sub (ws' := [(a0, .inr (7, [.ref a0_shelf, .ref a0_rowSort, .ref a0_rowSize, .ref a0_rows, .ref a0_moved, .ref a0_shown, .ref a0_tape, .int 0, .ref a0_refused, .int 0, .ref a0_road, .int 0, .ref a0_bridge, .int 0, .ref a0_waggon, .int 0, .ref a0_part, .ref a0_asked, .ref a0_under, .int 0, .null, .int 0, .int 0, .int 0, .long 0, .int 0, .int 0, .ref a0_far, .int 0]))]) [0] rfl) hG hS (va_recv hK hP (ci := 7) (q0 := 0) rfl rfl) rfl hl.1 rfl (Nat.le_of_ble_eq_true rfl) dX7_begin_3 ⟨Nat.le_of_ble_eq_true rfl, Nat.le_of_ble_eq_true rfl⟩ ?_
  refine lv_if_eq (tgt := 24) hx hb dX7_begin_6 (by decide) (fun _ => ?_) (fun c => absurd (show (0 : Int32) = 0 from by decide) c)
  refine lv_aload_n hx hb dX7_begin_24 rfl (lv_at hl 0 rfl) ?_
  refine lv_bipush (v := (-2)) hx hb dX7_begin_25 (by decide) ?_
  refine oh_mV (As := [.int (-2)]) (rest := []) (wr := []) ⟨hx, hb, hml, hown, htg⟩ (c_X7_refuse l D E G s.heap.size a0 (-2) a0_shelf a0_rowSort a0_rowSize a0_rows a0_moved a0_shown a0_tape a0_refused a0_road a0_bridge a0_waggon a0_part a0_asked a0_under a0_far (show vp_in (-(-2)) 8 by unfold vp_in; decide)) (cwV 1 htg (oh_gV q_1071 q_1073 q_29 q_73 q_1074) rfl rfl rfl pdVX7_refuse ⟨Nat.le_of_ble_eq_true rfl, Nat.le_of_ble_eq_true rfl⟩) hK hP hD hG hS hA [0, 1] [] rfl rfl (by decide) (by decide) (by decide) (va_recv hK hP (ci := 7) (q0 := 0) rfl rfl) rfl hl.1 rfl (Nat.le_of_ble_eq_true rfl) dX7_begin_27 ⟨Nat.le_of_ble_eq_true rfl, Nat.le_of_ble_eq_true rfl⟩ (fun r_1 u H locs hw hP hD hS => ?_)
  subst hw
  have hP : va_P D vwCl [(a0, .inr (7, [.ref a0_shelf, .ref a0_rowSort, .ref a0_rowSize, .ref a0_rows, .ref a0_moved, .ref a0_shown, .ref a0_tape, .int 0, .ref a0_refused, .int 0, .ref a0_road, .int 0, .ref a0_bridge, .int 0, .ref a0_waggon, .int 0, .ref a0_part, .ref a0_asked, .ref a0_under, .int 0, .null, .int 0, .int 0, .int 0, .long 0, .int 0, .int 0, .ref a0_far, .int 0]))] H := hP
  have hD : va_D A [(a0, .inr (7, [.ref a0_shelf, .ref a0_rowSort, .ref a0_rowSize, .ref a0_rows, .ref a0_moved, .ref a0_shown, .ref a0_tape, .int 0, .ref a0_refused, .int 0, .ref a0_road, .int 0, .ref a0_bridge, .int 0, .ref a0_waggon, .int 0, .ref a0_part, .ref a0_asked, .ref a0_under, .int 0, .null, .int 0, .int 0, .int 0, .long 0, .int 0, .int 0, .ref a0_far, .int 0]))] := hD
  refine W.widen (k := 0) (n := 0) (Nat.le_refl _) (Nat.le_refl _) ?_
  refine W.widen (k := 0) (n := 0) (Nat.le_of_ble_eq_true rfl) (Nat.le_of_ble_eq_true rfl) ?_
  exact W.iret (v := (-2)) hx hb hr (fun t ht hW => ⟨⟨(-2), (), rfl, rfl, ⟨by rw [ht]; exact hP.sub [] rfl, hD.sub [] (by decide) rfl⟩⟩, hS.F ht⟩) hS.2.2 dX7_begin_30
set_option maxHeartbeats 4000000 in
set_option maxRecDepth 100000 in
theorem c_X7_noWay (l : Launch) (D : va_G) (E : Nat → ClassId) (G : Nat → Nat) (sz : Nat) (a0 : Nat) (v_a : Int32) (v_b : Int32) (v_c : Int32) (v_d : Int32) (v_e : Int32) (a0_shelf : Nat) (a0_rowSort : Nat) (a0_rowSize : Nat) (a0_rows : Nat) (a0_moved : Nat) (a0_shown : Nat) (a0_tape : Nat) (a0_refused : Nat) (a0_road : Nat) (a0_bridge : Nat) (a0_waggon : Nat) (a0_part : Nat) (a0_asked : Nat) (a0_under : Nat) (a0_far : Nat) : Met l yX7_noWay (oh_w yX7_noWay cX7_noWay 6 (some .int)) ({ frames := 3, cells := 0, slots := 0, locals := 68 }) (oh_Pm D E G [.ref a0, .int v_a, .int v_b, .int v_c, .int v_d, .int v_e] [(a0, .inr (7, [.ref a0_shelf, .ref a0_rowSort, .ref a0_rowSize, .ref a0_rows, .ref a0_moved, .ref a0_shown, .ref a0_tape, .int 0, .ref a0_refused, .int 0, .ref a0_road, .int 0, .ref a0_bridge, .int 0, .ref a0_waggon, .int 0, .ref a0_part, .ref a0_asked, .ref a0_under, .int 0, .null, .int 0, .int 0, .int 0, .long 0, .int 0, .int 0, .ref a0_far, .int 0])), (a0_refused, .inl (E 0, 8, .inl (fun _ => 0)))] sz) (va_Qi (fun r (_ : Unit) => r = (-2)) (oh_B D (va_A [(a0, .inr (7, [.ref a0_shelf, .ref a0_rowSort, .ref a0_rowSize, .ref a0_rows, .ref a0_moved, .ref a0_shown, .ref a0_tape, .int 0, .ref a0_refused, .int 0, .ref a0_road, .int 0, .ref a0_bridge, .int 0, .ref a0_waggon, .int 0, .ref a0_part, .ref a0_asked, .ref a0_under, .int 0, .null, .int 0, .int 0, .int 0, .long 0, .int 0, .int 0, .ref a0_far, .int 0])), (a0_refused, .inl (E 0, 8, .inl (fun _ => 0)))] sz) (fun _ => [])) (va_A [(a0, .inr (7, [.ref a0_shelf, .ref a0_rowSort, .ref a0_rowSize, .ref a0_rows, .ref a0_moved, .ref a0_shown, .ref a0_tape, .int 0, .ref a0_refused, .int 0, .ref a0_road, .int 0, .ref a0_bridge, .int 0, .ref a0_waggon, .int 0, .ref a0_part, .ref a0_asked, .ref a0_under, .int 0, .null, .int 0, .int 0, .int 0, .long 0, .int 0, .int 0, .ref a0_far, .int 0])), (a0_refused, .inl (E 0, 8, .inl (fun _ => 0)))] sz)) 0 0 (va_A [(a0, .inr (7, [.ref a0_shelf, .ref a0_rowSort, .ref a0_rowSize, .ref a0_rows, .ref a0_moved, .ref a0_shown, .ref a0_tape, .int 0, .ref a0_refused, .int 0, .ref a0_road, .int 0, .ref a0_bridge, .int 0, .ref a0_waggon, .int 0, .ref a0_part, .ref a0_asked, .ref a0_under, .int 0, .null, .int 0, .int 0, .int 0, .long 0, .int 0, .int 0, .ref a0_far, .int 0])), (a0_refused, .inl (E 0, 8, .inl (fun _ => 0)))] sz) := by
  refine Met.ofW (cc := cX7_noWay) (maxL := 6) (ret := (some .int)) (by decide) rfl ?_
  intro p e s m args below meth c s₁ B hml hv
  obtain ⟨rfl, hsz, hP, hK, hD0, hG⟩ := hv
  have hx := B.exec
  have hb := B.bytes
  have hr := B.returns
  have hts := atoms_spec (ws := (oh_w yX7_noWay cX7_noWay 6 (some .int))) B.pre
  have htg : ∀ w ∈ oh_t, w.before _ s = true := fun w h => hts w (List.mem_cons_of_mem _ h)
  have hown : s.vm.findClass RX7 = some m.cls := findClass_of_methodNamed B.named
  have hlocks := B.notSynchronized
  subst hsz
  have hD := hD0.self (sz := s.heap.size)
  generalize hAe : va_A [(a0, .inr (7, [.ref a0_shelf, .ref a0_rowSort, .ref a0_rowSize, .ref a0_rows, .ref a0_moved, .ref a0_shown, .ref a0_tape, .int 0, .ref a0_refused, .int 0, .ref a0_road, .int 0, .ref a0_bridge, .int 0, .ref a0_waggon, .int 0, .ref a0_part, .ref a0_asked, .ref a0_under, .int 0, .null, .int 0, .int 0, .int 0, .long 0, .int 0, .int 0, .ref a0_far, .int 0])), (a0_refused, .inl (E 0, 8, .inl (fun _ => 0)))] s.heap.size = A at hD hG ⊢
  have hA : ∀ q : Nat, s.heap.size ≤ q → A q := fun q h => by rw [← hAe]; exact Or.inr h
  have hS : va_S A s.heap s.heap [] := va_S.rf
  have hP : va_P D vwCl [(a0, .inr (7, [.ref a0_shelf, .ref a0_rowSort, .ref a0_rowSize, .ref a0_rows, .ref a0_moved, .ref a0_shown, .ref a0_tape, .int 0, .ref a0_refused, .int 0, .ref a0_road, .int 0, .ref a0_bridge, .int 0, .ref a0_waggon, .int 0, .ref a0_part, .ref a0_asked, .ref a0_under, .int 0, .null, .int 0, .int 0, .int 0, .long 0, .int 0, .int 0, .ref a0_far, .int 0])), (a0_refused, .inl (E 0, 8, .inl (fun _ => 0)))] s.heap := hP
  have hl := lv_entry ([.ref a0, .int v_a, .int v_b, .int v_c, .int v_d, .int v_e]) (n := 6) (Nat.le_of_ble_eq_true rfl)
  rw [lg_entry_eq]
  generalize (lg_sl ([.ref a0, .int v_a, .int v_b, .int v_c, .int v_d, .int v_e]) ++ List.replicate (6 - (lg_sl ([.ref a0, .int v_a, .int v_b, .int v_c, .int v_d, .int v_e])).length) Slot.unset).toArray = ls at hl ⊢
  have hl : lv_has ls 6 [(0, .ref a0), (1, .int v_a), (2, .int v_b), (3, .int v_c), (4, .int v_d), (5, .int v_e)] := hl
  refine lv_aload_n hx hb dX7_noWay_0 rfl (lv_at hl 0 rfl) ?_
  refine lv_iload_n hx hb dX7_noWay_1 rfl (lv_at hl 1 rfl) ?_
  refine lv_iload_n hx hb dX7_noWay_2 rfl (lv_at hl 2 rfl) ?_
  refine oh_pV (As := [.int v_a, .int v_b]) (rest := []) (v := 0) ⟨hx, hb, hml, hown, htg⟩ (c_X7_isPack l D E G a0 v_a v_b a0_shelf a0_rowSort a0_rowSize a0_rows a0_moved a0_shown a0_tape a0_refused a0_road a0_bridge a0_waggon a0_part a0_asked a0_under a0_far) (cwV 2 htg (oh_gV q_1290 q_1292 q_50 q_73 q_1293) rfl rfl rfl pdVX7_isPack ⟨Nat.le_of_ble_eq_true rfl, Nat.le_of_ble_eq_true rfl⟩) hK (hP.sub (ws' := [(a0, .inr (7, [.ref a0_shelf, .ref a0_rowSort, .ref a0_rowSize, .ref a0_rows, .ref a0_moved, .ref a0_shown, .ref a0_tape, .int 0, .ref a0_refused, .int 0, .ref a0_road, .int 0, .ref a0_bridge, .int 0, .ref a0_waggon, .int 0, .ref a0_part, .ref a0_asked, .ref a0_under, .int 0, .null, .int 0, .int 0, .int 0, .long 0, .int 0, .int 0, .ref a0_far, .int 0]))]) [0] rfl) hG hS (va_recv hK hP (ci := 7) (q0 := 0) rfl rfl) rfl hl.1 rfl (Nat.le_of_ble_eq_true rfl) dX7_noWay_3 ⟨Nat.le_of_ble_eq_true rfl, Nat.le_of_ble_eq_true rfl⟩ ?_
  refine lv_if_eq (tgt := 42) hx hb dX7_noWay_6 (by decide) (fun _ => ?_) (fun c => absurd (show (0 : Int32) = 0 from by decide) c)
  refine lv_aload_n hx hb dX7_noWay_42 rfl (lv_at hl 0 rfl) ?_
  refine lv_bipush (v := (-2)) hx hb dX7_noWay_43 (by decide) ?_
  refine oh_mV (As := [.int (-2)]) (rest := []) (wr := []) ⟨hx, hb, hml, hown, htg⟩ (c_X7_refuse l D E G s.heap.size a0 (-2) a0_shelf a0_rowSort a0_rowSize a0_rows a0_moved a0_shown a0_tape a0_refused a0_road a0_bridge a0_waggon a0_part a0_asked a0_under a0_far (show vp_in (-(-2)) 8 by unfold vp_in; decide)) (cwV 1 htg (oh_gV q_1071 q_1073 q_29 q_73 q_1074) rfl rfl rfl pdVX7_refuse ⟨Nat.le_of_ble_eq_true rfl, Nat.le_of_ble_eq_true rfl⟩) hK hP hD hG hS hA [0, 1] [] rfl rfl (by decide) (by decide) (by decide) (va_recv hK hP (ci := 7) (q0 := 0) rfl rfl) rfl hl.1 rfl (Nat.le_of_ble_eq_true rfl) dX7_noWay_45 ⟨Nat.le_of_ble_eq_true rfl, Nat.le_of_ble_eq_true rfl⟩ (fun r_1 u H locs hw hP hD hS => ?_)
  subst hw
  have hP : va_P D vwCl [(a0, .inr (7, [.ref a0_shelf, .ref a0_rowSort, .ref a0_rowSize, .ref a0_rows, .ref a0_moved, .ref a0_shown, .ref a0_tape, .int 0, .ref a0_refused, .int 0, .ref a0_road, .int 0, .ref a0_bridge, .int 0, .ref a0_waggon, .int 0, .ref a0_part, .ref a0_asked, .ref a0_under, .int 0, .null, .int 0, .int 0, .int 0, .long 0, .int 0, .int 0, .ref a0_far, .int 0]))] H := hP
  have hD : va_D A [(a0, .inr (7, [.ref a0_shelf, .ref a0_rowSort, .ref a0_rowSize, .ref a0_rows, .ref a0_moved, .ref a0_shown, .ref a0_tape, .int 0, .ref a0_refused, .int 0, .ref a0_road, .int 0, .ref a0_bridge, .int 0, .ref a0_waggon, .int 0, .ref a0_part, .ref a0_asked, .ref a0_under, .int 0, .null, .int 0, .int 0, .int 0, .long 0, .int 0, .int 0, .ref a0_far, .int 0]))] := hD
  refine W.widen (k := 0) (n := 0) (Nat.le_refl _) (Nat.le_refl _) ?_
  refine W.widen (k := 0) (n := 0) (Nat.le_of_ble_eq_true rfl) (Nat.le_of_ble_eq_true rfl) ?_
  exact W.iret (v := (-2)) hx hb hr (fun t ht hW => ⟨⟨(-2), (), rfl, rfl, ⟨by rw [ht]; exact hP.sub [] rfl, hD.sub [] (by decide) rfl⟩⟩, hS.F ht⟩) hS.2.2 dX7_noWay_48
set_option maxHeartbeats 4000000 in
set_option maxRecDepth 100000 in
theorem c_X7_judge (l : Launch) (D : va_G) (E : Nat → ClassId) (G : Nat → Nat) (sz : Nat) (a0 : Nat) (v_a : Int32) (v_b : Int32) (v_c : Int32) (v_d : Int32) (v_e : Int32) (a0_shelf : Nat) (a0_rowSort : Nat) (a0_rowSize : Nat) (a0_rows : Nat) (a0_moved : Nat) (a0_shown : Nat) (a0_tape : Nat) (a0_refused : Nat) (a0_road : Nat) (a0_bridge : Nat) (a0_waggon : Nat) (a0_part : Nat) (a0_asked : Nat) (a0_under : Nat) (a0_far : Nat) : Met l yX7_judge (oh_w yX7_judge cX7_judge 7 (some .int)) ({ frames := 4, cells := 0, slots := 0, locals := 93 }) (oh_Pm D E G [.ref a0, .int v_a, .int v_b, .int v_c, .int v_d, .int v_e] [(a0, .inr (7, [.ref a0_shelf, .ref a0_rowSort, .ref a0_rowSize, .ref a0_rows, .ref a0_moved, .ref a0_shown, .ref a0_tape, .int 0, .ref a0_refused, .int 0, .ref a0_road, .int 0, .ref a0_bridge, .int 0, .ref a0_waggon, .int 0, .ref a0_part, .ref a0_asked, .ref a0_under, .int 0, .null, .int 0, .int 0, .int 0, .long 0, .int 0, .int 0, .ref a0_far, .int 0])), (a0_refused, .inl (E 0, 8, .inl (fun _ => 0)))] sz) (va_Qi (fun r (_ : Unit) => r = (-2)) (oh_B D (va_A [(a0, .inr (7, [.ref a0_shelf, .ref a0_rowSort, .ref a0_rowSize, .ref a0_rows, .ref a0_moved, .ref a0_shown, .ref a0_tape, .int 0, .ref a0_refused, .int 0, .ref a0_road, .int 0, .ref a0_bridge, .int 0, .ref a0_waggon, .int 0, .ref a0_part, .ref a0_asked, .ref a0_under, .int 0, .null, .int 0, .int 0, .int 0, .long 0, .int 0, .int 0, .ref a0_far, .int 0])), (a0_refused, .inl (E 0, 8, .inl (fun _ => 0)))] sz) (fun _ => [])) (va_A [(a0, .inr (7, [.ref a0_shelf, .ref a0_rowSort, .ref a0_rowSize, .ref a0_rows, .ref a0_moved, .ref a0_shown, .ref a0_tape, .int 0, .ref a0_refused, .int 0, .ref a0_road, .int 0, .ref a0_bridge, .int 0, .ref a0_waggon, .int 0, .ref a0_part, .ref a0_asked, .ref a0_under, .int 0, .null, .int 0, .int 0, .int 0, .long 0, .int 0, .int 0, .ref a0_far, .int 0])), (a0_refused, .inl (E 0, 8, .inl (fun _ => 0)))] sz)) 0 0 (va_A [(a0, .inr (7, [.ref a0_shelf, .ref a0_rowSort, .ref a0_rowSize, .ref a0_rows, .ref a0_moved, .ref a0_shown, .ref a0_tape, .int 0, .ref a0_refused, .int 0, .ref a0_road, .int 0, .ref a0_bridge, .int 0, .ref a0_waggon, .int 0, .ref a0_part, .ref a0_asked, .ref a0_under, .int 0, .null, .int 0, .int 0, .int 0, .long 0, .int 0, .int 0, .ref a0_far, .int 0])), (a0_refused, .inl (E 0, 8, .inl (fun _ => 0)))] sz) := by
  refine Met.ofW (cc := cX7_judge) (maxL := 7) (ret := (some .int)) (by decide) rfl ?_
  intro p e s m args below meth c s₁ B hml hv
  obtain ⟨rfl, hsz, hP, hK, hD0, hG⟩ := hv
  have hx := B.exec
  have hb := B.bytes
  have hr := B.returns
  have hts := atoms_spec (ws := (oh_w yX7_judge cX7_judge 7 (some .int))) B.pre
  have htg : ∀ w ∈ oh_t, w.before _ s = true := fun w h => hts w (List.mem_cons_of_mem _ h)
  have hown : s.vm.findClass RX7 = some m.cls := findClass_of_methodNamed B.named
  have hlocks := B.notSynchronized
  subst hsz
  have hD := hD0.self (sz := s.heap.size)
  generalize hAe : va_A [(a0, .inr (7, [.ref a0_shelf, .ref a0_rowSort, .ref a0_rowSize, .ref a0_rows, .ref a0_moved, .ref a0_shown, .ref a0_tape, .int 0, .ref a0_refused, .int 0, .ref a0_road, .int 0, .ref a0_bridge, .int 0, .ref a0_waggon, .int 0, .ref a0_part, .ref a0_asked, .ref a0_under, .int 0, .null, .int 0, .int 0, .int 0, .long 0, .int 0, .int 0, .ref a0_far, .int 0])), (a0_refused, .inl (E 0, 8, .inl (fun _ => 0)))] s.heap.size = A at hD hG ⊢
  have hA : ∀ q : Nat, s.heap.size ≤ q → A q := fun q h => by rw [← hAe]; exact Or.inr h
  have hS : va_S A s.heap s.heap [] := va_S.rf
  have hP : va_P D vwCl [(a0, .inr (7, [.ref a0_shelf, .ref a0_rowSort, .ref a0_rowSize, .ref a0_rows, .ref a0_moved, .ref a0_shown, .ref a0_tape, .int 0, .ref a0_refused, .int 0, .ref a0_road, .int 0, .ref a0_bridge, .int 0, .ref a0_waggon, .int 0, .ref a0_part, .ref a0_asked, .ref a0_under, .int 0, .null, .int 0, .int 0, .int 0, .long 0, .int 0, .int 0, .ref a0_far, .int 0])), (a0_refused, .inl (E 0, 8, .inl (fun _ => 0)))] s.heap := hP
  have hl := lv_entry ([.ref a0, .int v_a, .int v_b, .int v_c, .int v_d, .int v_e]) (n := 7) (Nat.le_of_ble_eq_true rfl)
  rw [lg_entry_eq]
  generalize (lg_sl ([.ref a0, .int v_a, .int v_b, .int v_c, .int v_d, .int v_e]) ++ List.replicate (7 - (lg_sl ([.ref a0, .int v_a, .int v_b, .int v_c, .int v_d, .int v_e])).length) Slot.unset).toArray = ls at hl ⊢
  have hl : lv_has ls 7 [(0, .ref a0), (1, .int v_a), (2, .int v_b), (3, .int v_c), (4, .int v_d), (5, .int v_e)] := hl
  refine lv_aload_n hx hb dX7_judge_0 rfl (lv_at hl 0 rfl) ?_
  refine lv_iload_n hx hb dX7_judge_1 rfl (lv_at hl 1 rfl) ?_
  refine lv_iload_n hx hb dX7_judge_2 rfl (lv_at hl 2 rfl) ?_
  refine lv_iload_n hx hb dX7_judge_3 rfl (lv_at hl 3 rfl) ?_
  refine lv_iload hx hb dX7_judge_4 (lv_at hl 4 rfl) ?_
  refine lv_iload hx hb dX7_judge_6 (lv_at hl 5 rfl) ?_
  refine oh_mV (As := [.int v_a, .int v_b, .int v_c, .int v_d, .int v_e]) (rest := []) (wr := []) ⟨hx, hb, hml, hown, htg⟩ (c_X7_noWay l D E G s.heap.size a0 v_a v_b v_c v_d v_e a0_shelf a0_rowSort a0_rowSize a0_rows a0_moved a0_shown a0_tape a0_refused a0_road a0_bridge a0_waggon a0_part a0_asked a0_under a0_far) (cwV 5 htg (oh_gV q_1373 q_1375 q_62 q_73 q_1376) rfl rfl rfl pdVX7_noWay ⟨Nat.le_of_ble_eq_true rfl, Nat.le_of_ble_eq_true rfl⟩) hK hP hD hG hS hA [0, 1] [] rfl rfl (by decide) (by decide) (by decide) (va_recv hK hP (ci := 7) (q0 := 0) rfl rfl) rfl hl.1 rfl (Nat.le_of_ble_eq_true rfl) dX7_judge_8 ⟨Nat.le_of_ble_eq_true rfl, Nat.le_of_ble_eq_true rfl⟩ (fun r_1 u H locs hw hP hD hS => ?_)
  subst hw
  have hP : va_P D vwCl [] H := hP
  have hD : va_D A [] := hD
  refine W.widen (k := 0) (n := 0) (Nat.le_refl _) (Nat.le_refl _) ?_
  refine lv_istore (lv' := [(6, .int (-2)), (0, .ref a0), (1, .int v_a), (2, .int v_b), (3, .int v_c), (4, .int v_d), (5, .int v_e)]) hx hb dX7_judge_11 hl (by decide) rfl (fun ls hl => ?_)
  refine lv_iload hx hb dX7_judge_13 (lv_at hl 0 rfl) ?_
  refine lv_if_eq (tgt := 23) hx hb dX7_judge_15 (by decide) (fun c => absurd c (show ¬ ((-2 : Int32) = 0) from by decide)) (fun _ => ?_)
  refine lv_iload hx hb dX7_judge_18 (lv_at hl 0 rfl) ?_
  refine lv_goto (tgt := 34) hx hb dX7_judge_20 (by decide) ?_
  refine W.widen (k := 0) (n := 0) (Nat.le_of_ble_eq_true rfl) (Nat.le_of_ble_eq_true rfl) ?_
  exact W.iret (v := (-2)) hx hb hr (fun t ht hW => ⟨⟨(-2), (), rfl, rfl, ⟨by rw [ht]; exact hP.sub [] rfl, hD.sub [] (by decide) rfl⟩⟩, hS.F ht⟩) hS.2.2 dX7_judge_34
set_option maxHeartbeats 4000000 in
set_option maxRecDepth 100000 in
theorem c_X7_told_ (l : Launch) (D : va_G) (E : Nat → ClassId) (G : Nat → Nat) (sz : Nat) (a0 : Nat) (v_a : Int32) (v_b : Int32) (v_c : Int32) (v_d : Int32) (v_e : Int32) (v_f : Int32) (a0_shelf : Nat) (a0_rowSort : Nat) (a0_rowSize : Nat) (a0_rows : Nat) (a0_moved : Nat) (a0_shown : Nat) (a0_tape : Nat) (a0_refused : Nat) (a0_road : Nat) (a0_bridge : Nat) (a0_waggon : Nat) (a0_part : Nat) (a0_asked : Nat) (a0_under : Nat) (a0_far : Nat) : Met l yX7_told_ (oh_w yX7_told_ cX7_told_ 12 (some .int)) ({ frames := 4, cells := 0, slots := 0, locals := 93 }) (oh_Pm D E G [.ref a0, .int v_a, .int v_b, .int v_c, .int v_d, .int v_e, .int v_f] [(a0, .inr (7, [.ref a0_shelf, .ref a0_rowSort, .ref a0_rowSize, .ref a0_rows, .ref a0_moved, .ref a0_shown, .ref a0_tape, .int 0, .ref a0_refused, .int 0, .ref a0_road, .int 0, .ref a0_bridge, .int 0, .ref a0_waggon, .int 0, .ref a0_part, .ref a0_asked, .ref a0_under, .int 0, .null, .int 0, .int 0, .int 0, .long 0, .int 0, .int 0, .ref a0_far, .int 0])), (a0_refused, .inl (E 0, 8, .inl (fun _ => 0)))] sz) (va_Qi (fun r (_ : Unit) => r = (-2)) (oh_B D (va_A [(a0, .inr (7, [.ref a0_shelf, .ref a0_rowSort, .ref a0_rowSize, .ref a0_rows, .ref a0_moved, .ref a0_shown, .ref a0_tape, .int 0, .ref a0_refused, .int 0, .ref a0_road, .int 0, .ref a0_bridge, .int 0, .ref a0_waggon, .int 0, .ref a0_part, .ref a0_asked, .ref a0_under, .int 0, .null, .int 0, .int 0, .int 0, .long 0, .int 0, .int 0, .ref a0_far, .int 0])), (a0_refused, .inl (E 0, 8, .inl (fun _ => 0)))] sz) (fun _ => [])) (va_A [(a0, .inr (7, [.ref a0_shelf, .ref a0_rowSort, .ref a0_rowSize, .ref a0_rows, .ref a0_moved, .ref a0_shown, .ref a0_tape, .int 0, .ref a0_refused, .int 0, .ref a0_road, .int 0, .ref a0_bridge, .int 0, .ref a0_waggon, .int 0, .ref a0_part, .ref a0_asked, .ref a0_under, .int 0, .null, .int 0, .int 0, .int 0, .long 0, .int 0, .int 0, .ref a0_far, .int 0])), (a0_refused, .inl (E 0, 8, .inl (fun _ => 0)))] sz)) 0 0 (va_A [(a0, .inr (7, [.ref a0_shelf, .ref a0_rowSort, .ref a0_rowSize, .ref a0_rows, .ref a0_moved, .ref a0_shown, .ref a0_tape, .int 0, .ref a0_refused, .int 0, .ref a0_road, .int 0, .ref a0_bridge, .int 0, .ref a0_waggon, .int 0, .ref a0_part, .ref a0_asked, .ref a0_under, .int 0, .null, .int 0, .int 0, .int 0, .long 0, .int 0, .int 0, .ref a0_far, .int 0])), (a0_refused, .inl (E 0, 8, .inl (fun _ => 0)))] sz) := by
  refine Met.ofW (cc := cX7_told_) (maxL := 12) (ret := (some .int)) (by decide) rfl ?_
  intro p e s m args below meth c s₁ B hml hv
  obtain ⟨rfl, hsz, hP, hK, hD0, hG⟩ := hv
  have hx := B.exec
  have hb := B.bytes
  have hr := B.returns
  have hts := atoms_spec (ws := (oh_w yX7_told_ cX7_told_ 12 (some .int))) B.pre
  have htg : ∀ w ∈ oh_t, w.before _ s = true := fun w h => hts w (List.mem_cons_of_mem _ h)
  have hown : s.vm.findClass RX7 = some m.cls := findClass_of_methodNamed B.named
  have hlocks := B.notSynchronized
  subst hsz
  have hD := hD0.self (sz := s.heap.size)
  generalize hAe : va_A [(a0, .inr (7, [.ref a0_shelf, .ref a0_rowSort, .ref a0_rowSize, .ref a0_rows, .ref a0_moved, .ref a0_shown, .ref a0_tape, .int 0, .ref a0_refused, .int 0, .ref a0_road, .int 0, .ref a0_bridge, .int 0, .ref a0_waggon, .int 0, .ref a0_part, .ref a0_asked, .ref a0_under, .int 0, .null, .int 0, .int 0, .int 0, .long 0, .int 0, .int 0, .ref a0_far, .int 0])), (a0_refused, .inl (E 0, 8, .inl (fun _ => 0)))] s.heap.size = A at hD hG ⊢
  have hA : ∀ q : Nat, s.heap.size ≤ q → A q := fun q h => by rw [← hAe]; exact Or.inr h
  have hS : va_S A s.heap s.heap [] := va_S.rf
  have hP : va_P D vwCl [(a0, .inr (7, [.ref a0_shelf, .ref a0_rowSort, .ref a0_rowSize, .ref a0_rows, .ref a0_moved, .ref a0_shown, .ref a0_tape, .int 0, .ref a0_refused, .int 0, .ref a0_road, .int 0, .ref a0_bridge, .int 0, .ref a0_waggon, .int 0, .ref a0_part, .ref a0_asked, .ref a0_under, .int 0, .null, .int 0, .int 0, .int 0, .long 0, .int 0, .int 0, .ref a0_far, .int 0])), (a0_refused, .inl (E 0, 8, .inl (fun _ => 0)))] s.heap := hP
  have hl := lv_entry ([.ref a0, .int v_a, .int v_b, .int v_c, .int v_d, .int v_e, .int v_f]) (n := 12) (Nat.le_of_ble_eq_true rfl)
  rw [lg_entry_eq]
  generalize (lg_sl ([.ref a0, .int v_a, .int v_b, .int v_c, .int v_d, .int v_e, .int v_f]) ++ List.replicate (12 - (lg_sl ([.ref a0, .int v_a, .int v_b, .int v_c, .int v_d, .int v_e, .int v_f])).length) Slot.unset).toArray = ls at hl ⊢
  have hl : lv_has ls 12 [(0, .ref a0), (1, .int v_a), (2, .int v_b), (3, .int v_c), (4, .int v_d), (5, .int v_e), (6, .int v_f)] := hl
  refine lv_iload hx hb dX7_told__0 (lv_at hl 6 rfl) ?_
  refine lv_i2l (v := Int32.toInt64 v_f) hx hb dX7_told__2 (by rfl) ?_
  refine lv_lconst (v := 0) hx hb dX7_told__3 (by decide) ?_
  refine lv_ldc2 (v := 3) hx hb hown (htg _ q_1385) dX7_told__4 ?_
  refine oh_pS (As := [.long (Int32.toInt64 v_f), .long 0, .long 3]) (rest := []) (v := fX7_in (Int32.toInt64 v_f) 0 3) ⟨hx, hb, hml, hown, htg⟩ (c_X7_in l D E G (Int32.toInt64 v_f) 0 3) (va_cwS 3 htg (oh_gS q_1066 q_1067 q_73 q_1068) rfl rfl rfl pdX7_in ⟨Nat.le_of_ble_eq_true rfl, Nat.le_of_ble_eq_true rfl⟩) hK (hP.sub (ws' := []) [] rfl) hG hS rfl hl.1 rfl (Nat.le_of_ble_eq_true rfl) dX7_told__7 ⟨Nat.le_of_ble_eq_true rfl, Nat.le_of_ble_eq_true rfl⟩ ?_
  refine lv_if_ne (tgt := 20) hx hb dX7_told__10 (by decide) (fun (c_1 : ¬ ((fX7_in (Int32.toInt64 v_f) 0 3) = 0)) => ?_) (fun (c_1 : (fX7_in (Int32.toInt64 v_f) 0 3) = 0) => ?_)
  · refine lv_aload_n hx hb dX7_told__20 rfl (lv_at hl 0 rfl) ?_
    refine lv_iload_n hx hb dX7_told__21 rfl (lv_at hl 1 rfl) ?_
    refine lv_iload_n hx hb dX7_told__22 rfl (lv_at hl 2 rfl) ?_
    refine lv_iload_n hx hb dX7_told__23 rfl (lv_at hl 3 rfl) ?_
    refine lv_iload hx hb dX7_told__24 (lv_at hl 4 rfl) ?_
    refine lv_iload hx hb dX7_told__26 (lv_at hl 5 rfl) ?_
    refine oh_mV (As := [.int v_a, .int v_b, .int v_c, .int v_d, .int v_e]) (rest := []) (wr := []) ⟨hx, hb, hml, hown, htg⟩ (c_X7_noWay l D E G s.heap.size a0 v_a v_b v_c v_d v_e a0_shelf a0_rowSort a0_rowSize a0_rows a0_moved a0_shown a0_tape a0_refused a0_road a0_bridge a0_waggon a0_part a0_asked a0_under a0_far) (cwV 5 htg (oh_gV q_1373 q_1375 q_62 q_73 q_1376) rfl rfl rfl pdVX7_noWay ⟨Nat.le_of_ble_eq_true rfl, Nat.le_of_ble_eq_true rfl⟩) hK hP hD hG hS hA [0, 1] [] rfl rfl (by decide) (by decide) (by decide) (va_recv hK hP (ci := 7) (q0 := 0) rfl rfl) rfl hl.1 rfl (Nat.le_of_ble_eq_true rfl) dX7_told__28 ⟨Nat.le_of_ble_eq_true rfl, Nat.le_of_ble_eq_true rfl⟩ (fun r_1 u H locs hw hP hD hS => ?_)
    subst hw
    have hP : va_P D vwCl [] H := hP
    have hD : va_D A [] := hD
    refine W.widen (k := 0) (n := 0) (Nat.le_refl _) (Nat.le_refl _) ?_
    refine lv_istore (lv' := [(7, .int (-2)), (0, .ref a0), (1, .int v_a), (2, .int v_b), (3, .int v_c), (4, .int v_d), (5, .int v_e), (6, .int v_f)]) hx hb dX7_told__31 hl (by decide) rfl (fun ls hl => ?_)
    refine lv_iload hx hb dX7_told__33 (lv_at hl 0 rfl) ?_
    refine lv_if_eq (tgt := 41) hx hb dX7_told__35 (by decide) (fun c => absurd c (show ¬ ((-2 : Int32) = 0) from by decide)) (fun _ => ?_)
    refine lv_iload hx hb dX7_told__38 (lv_at hl 0 rfl) ?_
    refine W.widen (k := 0) (n := 0) (Nat.le_of_ble_eq_true rfl) (Nat.le_of_ble_eq_true rfl) ?_
    exact W.iret (v := (-2)) hx hb hr (fun t ht hW => ⟨⟨(-2), (), rfl, rfl, ⟨by rw [ht]; exact hP.sub [] rfl, hD.sub [] (by decide) rfl⟩⟩, hS.F ht⟩) hS.2.2 dX7_told__40
  · refine lv_aload_n hx hb dX7_told__13 rfl (lv_at hl 0 rfl) ?_
    refine lv_bipush (v := (-2)) hx hb dX7_told__14 (by decide) ?_
    refine oh_mV (As := [.int (-2)]) (rest := []) (wr := []) ⟨hx, hb, hml, hown, htg⟩ (c_X7_refuse l D E G s.heap.size a0 (-2) a0_shelf a0_rowSort a0_rowSize a0_rows a0_moved a0_shown a0_tape a0_refused a0_road a0_bridge a0_waggon a0_part a0_asked a0_under a0_far (show vp_in (-(-2)) 8 by unfold vp_in; decide)) (cwV 1 htg (oh_gV q_1071 q_1073 q_29 q_73 q_1074) rfl rfl rfl pdVX7_refuse ⟨Nat.le_of_ble_eq_true rfl, Nat.le_of_ble_eq_true rfl⟩) hK hP hD hG hS hA [0, 1] [] rfl rfl (by decide) (by decide) (by decide) (va_recv hK hP (ci := 7) (q0 := 0) rfl rfl) rfl hl.1 rfl (Nat.le_of_ble_eq_true rfl) dX7_told__16 ⟨Nat.le_of_ble_eq_true rfl, Nat.le_of_ble_eq_true rfl⟩ (fun r_2 u H locs hw hP hD hS => ?_)
    subst hw
    have hP : va_P D vwCl [(a0, .inr (7, [.ref a0_shelf, .ref a0_rowSort, .ref a0_rowSize, .ref a0_rows, .ref a0_moved, .ref a0_shown, .ref a0_tape, .int 0, .ref a0_refused, .int 0, .ref a0_road, .int 0, .ref a0_bridge, .int 0, .ref a0_waggon, .int 0, .ref a0_part, .ref a0_asked, .ref a0_under, .int 0, .null, .int 0, .int 0, .int 0, .long 0, .int 0, .int 0, .ref a0_far, .int 0]))] H := hP
    have hD : va_D A [(a0, .inr (7, [.ref a0_shelf, .ref a0_rowSort, .ref a0_rowSize, .ref a0_rows, .ref a0_moved, .ref a0_shown, .ref a0_tape, .int 0, .ref a0_refused, .int 0, .ref a0_road, .int 0, .ref a0_bridge, .int 0, .ref a0_waggon, .int 0, .ref a0_part, .ref a0_asked, .ref a0_under, .int 0, .null, .int 0, .int 0, .int 0, .long 0, .int 0, .int 0, .ref a0_far, .int 0]))] := hD
    refine W.widen (k := 0) (n := 0) (Nat.le_refl _) (Nat.le_refl _) ?_
    refine W.widen (k := 0) (n := 0) (Nat.le_of_ble_eq_true rfl) (Nat.le_of_ble_eq_true rfl) ?_
    exact W.iret (v := (-2)) hx hb hr (fun t ht hW => ⟨⟨(-2), (), rfl, rfl, ⟨by rw [ht]; exact hP.sub [] rfl, hD.sub [] (by decide) rfl⟩⟩, hS.F ht⟩) hS.2.2 dX7_told__19
def fX7_best (v_a : Int32) (v_b : Int32) (v_c : Int32) : Int32 :=
  if (fX7_in (Int32.toInt64 v_a) 0 15) = 0 then (-2) else if (fX7_in (Int32.toInt64 v_b) 0 15) = 0 then (-2) else if (fX7_in (Int32.toInt64 v_c) 0 2) = 0 then (-2) else (-5)
set_option maxHeartbeats 4000000 in
set_option maxRecDepth 100000 in
theorem c_X7_best (l : Launch) (D : va_G) (E : Nat → ClassId) (G : Nat → Nat) (sz : Nat) (a0 : Nat) (v_a : Int32) (v_b : Int32) (v_c : Int32) (a0_shelf : Nat) (a0_rowSort : Nat) (a0_rowSize : Nat) (a0_rows : Nat) (a0_moved : Nat) (a0_shown : Nat) (a0_tape : Nat) (a0_refused : Nat) (a0_road : Nat) (a0_bridge : Nat) (a0_waggon : Nat) (a0_part : Nat) (a0_asked : Nat) (a0_under : Nat) (a0_far : Nat) : Met l yX7_best (oh_w yX7_best cX7_best 9 (some .int)) ({ frames := 2, cells := 0, slots := 0, locals := 45 }) (oh_Pm D E G [.ref a0, .int v_a, .int v_b, .int v_c] [(a0, .inr (7, [.ref a0_shelf, .ref a0_rowSort, .ref a0_rowSize, .ref a0_rows, .ref a0_moved, .ref a0_shown, .ref a0_tape, .int 0, .ref a0_refused, .int 0, .ref a0_road, .int 0, .ref a0_bridge, .int 0, .ref a0_waggon, .int 0, .ref a0_part, .ref a0_asked, .ref a0_under, .int 0, .null, .int 0, .int 0, .int 0, .long 0, .int 0, .int 0, .ref a0_far, .int 0])), (a0_refused, .inl (E 0, 8, .inl (fun _ => 0)))] sz) (va_Qi (fun r (_ : Unit) => r = fX7_best v_a v_b v_c) (oh_B D (va_A [(a0, .inr (7, [.ref a0_shelf, .ref a0_rowSort, .ref a0_rowSize, .ref a0_rows, .ref a0_moved, .ref a0_shown, .ref a0_tape, .int 0, .ref a0_refused, .int 0, .ref a0_road, .int 0, .ref a0_bridge, .int 0, .ref a0_waggon, .int 0, .ref a0_part, .ref a0_asked, .ref a0_under, .int 0, .null, .int 0, .int 0, .int 0, .long 0, .int 0, .int 0, .ref a0_far, .int 0])), (a0_refused, .inl (E 0, 8, .inl (fun _ => 0)))] sz) (fun _ => [])) (va_A [(a0, .inr (7, [.ref a0_shelf, .ref a0_rowSort, .ref a0_rowSize, .ref a0_rows, .ref a0_moved, .ref a0_shown, .ref a0_tape, .int 0, .ref a0_refused, .int 0, .ref a0_road, .int 0, .ref a0_bridge, .int 0, .ref a0_waggon, .int 0, .ref a0_part, .ref a0_asked, .ref a0_under, .int 0, .null, .int 0, .int 0, .int 0, .long 0, .int 0, .int 0, .ref a0_far, .int 0])), (a0_refused, .inl (E 0, 8, .inl (fun _ => 0)))] sz)) 0 0 (va_A [(a0, .inr (7, [.ref a0_shelf, .ref a0_rowSort, .ref a0_rowSize, .ref a0_rows, .ref a0_moved, .ref a0_shown, .ref a0_tape, .int 0, .ref a0_refused, .int 0, .ref a0_road, .int 0, .ref a0_bridge, .int 0, .ref a0_waggon, .int 0, .ref a0_part, .ref a0_asked, .ref a0_under, .int 0, .null, .int 0, .int 0, .int 0, .long 0, .int 0, .int 0, .ref a0_far, .int 0])), (a0_refused, .inl (E 0, 8, .inl (fun _ => 0)))] sz) := by
  refine Met.ofW (cc := cX7_best) (maxL := 9) (ret := (some .int)) (by decide) rfl ?_
  intro p e s m args below meth c s₁ B hml hv
  obtain ⟨rfl, hsz, hP, hK, hD0, hG⟩ := hv
  have hx := B.exec
  have hb := B.bytes
  have hr := B.returns
  have hts := atoms_spec (ws := (oh_w yX7_best cX7_best 9 (some .int))) B.pre
  have htg : ∀ w ∈ oh_t, w.before _ s = true := fun w h => hts w (List.mem_cons_of_mem _ h)
  have hown : s.vm.findClass RX7 = some m.cls := findClass_of_methodNamed B.named
  have hlocks := B.notSynchronized
  subst hsz
  have hD := hD0.self (sz := s.heap.size)
  generalize hAe : va_A [(a0, .inr (7, [.ref a0_shelf, .ref a0_rowSort, .ref a0_rowSize, .ref a0_rows, .ref a0_moved, .ref a0_shown, .ref a0_tape, .int 0, .ref a0_refused, .int 0, .ref a0_road, .int 0, .ref a0_bridge, .int 0, .ref a0_waggon, .int 0, .ref a0_part, .ref a0_asked, .ref a0_under, .int 0, .null, .int 0, .int 0, .int 0, .long 0, .int 0, .int 0, .ref a0_far, .int 0])), (a0_refused, .inl (E 0, 8, .inl (fun _ => 0)))] s.heap.size = A at hD hG ⊢
  have hA : ∀ q : Nat, s.heap.size ≤ q → A q := fun q h => by rw [← hAe]; exact Or.inr h
  have hS : va_S A s.heap s.heap [] := va_S.rf
  have hP : va_P D vwCl [(a0, .inr (7, [.ref a0_shelf, .ref a0_rowSort, .ref a0_rowSize, .ref a0_rows, .ref a0_moved, .ref a0_shown, .ref a0_tape, .int 0, .ref a0_refused, .int 0, .ref a0_road, .int 0, .ref a0_bridge, .int 0, .ref a0_waggon, .int 0, .ref a0_part, .ref a0_asked, .ref a0_under, .int 0, .null, .int 0, .int 0, .int 0, .long 0, .int 0, .int 0, .ref a0_far, .int 0])), (a0_refused, .inl (E 0, 8, .inl (fun _ => 0)))] s.heap := hP
  have hl := lv_entry ([.ref a0, .int v_a, .int v_b, .int v_c]) (n := 9) (Nat.le_of_ble_eq_true rfl)
  rw [lg_entry_eq]
  generalize (lg_sl ([.ref a0, .int v_a, .int v_b, .int v_c]) ++ List.replicate (9 - (lg_sl ([.ref a0, .int v_a, .int v_b, .int v_c])).length) Slot.unset).toArray = ls at hl ⊢
  have hl : lv_has ls 9 [(0, .ref a0), (1, .int v_a), (2, .int v_b), (3, .int v_c)] := hl
  refine lv_iload_n hx hb dX7_best_0 rfl (lv_at hl 1 rfl) ?_
  refine oh_pS (As := [.int v_a]) (rest := []) (v := fX7_in (Int32.toInt64 v_a) 0 15) ⟨hx, hb, hml, hown, htg⟩ (c_X7_isPlace l D E G v_a) (va_cwS 1 htg (oh_gS q_1130 q_1131 q_73 q_1132) rfl rfl rfl pdX7_isPlace ⟨Nat.le_of_ble_eq_true rfl, Nat.le_of_ble_eq_true rfl⟩) hK (hP.sub (ws' := []) [] rfl) hG hS rfl hl.1 rfl (Nat.le_of_ble_eq_true rfl) dX7_best_1 ⟨Nat.le_of_ble_eq_true rfl, Nat.le_of_ble_eq_true rfl⟩ ?_
  refine lv_if_eq (tgt := 26) hx hb dX7_best_4 (by decide) (fun (c_1 : (fX7_in (Int32.toInt64 v_a) 0 15) = 0) => ?_) (fun (c_1 : ¬ ((fX7_in (Int32.toInt64 v_a) 0 15) = 0)) => ?_)
  · refine lv_aload_n hx hb dX7_best_26 rfl (lv_at hl 0 rfl) ?_
    refine lv_bipush (v := (-2)) hx hb dX7_best_27 (by decide) ?_
    refine oh_mV (As := [.int (-2)]) (rest := []) (wr := []) ⟨hx, hb, hml, hown, htg⟩ (c_X7_refuse l D E G s.heap.size a0 (-2) a0_shelf a0_rowSort a0_rowSize a0_rows a0_moved a0_shown a0_tape a0_refused a0_road a0_bridge a0_waggon a0_part a0_asked a0_under a0_far (show vp_in (-(-2)) 8 by unfold vp_in; decide)) (cwV 1 htg (oh_gV q_1071 q_1073 q_29 q_73 q_1074) rfl rfl rfl pdVX7_refuse ⟨Nat.le_of_ble_eq_true rfl, Nat.le_of_ble_eq_true rfl⟩) hK hP hD hG hS hA [0, 1] [] rfl rfl (by decide) (by decide) (by decide) (va_recv hK hP (ci := 7) (q0 := 0) rfl rfl) rfl hl.1 rfl (Nat.le_of_ble_eq_true rfl) dX7_best_29 ⟨Nat.le_of_ble_eq_true rfl, Nat.le_of_ble_eq_true rfl⟩ (fun r_1 u H locs hw hP hD hS => ?_)
    subst hw
    have hP : va_P D vwCl [(a0, .inr (7, [.ref a0_shelf, .ref a0_rowSort, .ref a0_rowSize, .ref a0_rows, .ref a0_moved, .ref a0_shown, .ref a0_tape, .int 0, .ref a0_refused, .int 0, .ref a0_road, .int 0, .ref a0_bridge, .int 0, .ref a0_waggon, .int 0, .ref a0_part, .ref a0_asked, .ref a0_under, .int 0, .null, .int 0, .int 0, .int 0, .long 0, .int 0, .int 0, .ref a0_far, .int 0]))] H := hP
    have hD : va_D A [(a0, .inr (7, [.ref a0_shelf, .ref a0_rowSort, .ref a0_rowSize, .ref a0_rows, .ref a0_moved, .ref a0_shown, .ref a0_tape, .int 0, .ref a0_refused, .int 0, .ref a0_road, .int 0, .ref a0_bridge, .int 0, .ref a0_waggon, .int 0, .ref a0_part, .ref a0_asked, .ref a0_under, .int 0, .null, .int 0, .int 0, .int 0, .long 0, .int 0, .int 0, .ref a0_far, .int 0]))] := hD
    refine W.widen (k := 0) (n := 0) (Nat.le_refl _) (Nat.le_refl _) ?_
    refine W.widen (k := 0) (n := 0) (Nat.le_of_ble_eq_true rfl) (Nat.le_of_ble_eq_true rfl) ?_
    exact W.iret (v := (-2)) hx hb hr (fun t ht hW => ⟨⟨(-2), (), rfl, by unfold fX7_best; rw [if_pos c_1], ⟨by rw [ht]; exact hP.sub [] rfl, hD.sub [] (by decide) rfl⟩⟩, hS.F ht⟩) hS.2.2 dX7_best_32
  · refine lv_iload_n hx hb dX7_best_7 rfl (lv_at hl 2 rfl) ?_
    refine oh_pS (As := [.int v_b]) (rest := []) (v := fX7_in (Int32.toInt64 v_b) 0 15) ⟨hx, hb, hml, hown, htg⟩ (c_X7_isPlace l D E G v_b) (va_cwS 1 htg (oh_gS q_1130 q_1131 q_73 q_1132) rfl rfl rfl pdX7_isPlace ⟨Nat.le_of_ble_eq_true rfl, Nat.le_of_ble_eq_true rfl⟩) hK (hP.sub (ws' := []) [] rfl) hG hS rfl hl.1 rfl (Nat.le_of_ble_eq_true rfl) dX7_best_8 ⟨Nat.le_of_ble_eq_true rfl, Nat.le_of_ble_eq_true rfl⟩ ?_
    refine lv_if_eq (tgt := 26) hx hb dX7_best_11 (by decide) (fun (c_2 : (fX7_in (Int32.toInt64 v_b) 0 15) = 0) => ?_) (fun (c_2 : ¬ ((fX7_in (Int32.toInt64 v_b) 0 15) = 0)) => ?_)
    · refine lv_aload_n hx hb dX7_best_26 rfl (lv_at hl 0 rfl) ?_
      refine lv_bipush (v := (-2)) hx hb dX7_best_27 (by decide) ?_
      refine oh_mV (As := [.int (-2)]) (rest := []) (wr := []) ⟨hx, hb, hml, hown, htg⟩ (c_X7_refuse l D E G s.heap.size a0 (-2) a0_shelf a0_rowSort a0_rowSize a0_rows a0_moved a0_shown a0_tape a0_refused a0_road a0_bridge a0_waggon a0_part a0_asked a0_under a0_far (show vp_in (-(-2)) 8 by unfold vp_in; decide)) (cwV 1 htg (oh_gV q_1071 q_1073 q_29 q_73 q_1074) rfl rfl rfl pdVX7_refuse ⟨Nat.le_of_ble_eq_true rfl, Nat.le_of_ble_eq_true rfl⟩) hK hP hD hG hS hA [0, 1] [] rfl rfl (by decide) (by decide) (by decide) (va_recv hK hP (ci := 7) (q0 := 0) rfl rfl) rfl hl.1 rfl (Nat.le_of_ble_eq_true rfl) dX7_best_29 ⟨Nat.le_of_ble_eq_true rfl, Nat.le_of_ble_eq_true rfl⟩ (fun r_2 u H locs hw hP hD hS => ?_)
      subst hw
      have hP : va_P D vwCl [(a0, .inr (7, [.ref a0_shelf, .ref a0_rowSort, .ref a0_rowSize, .ref a0_rows, .ref a0_moved, .ref a0_shown, .ref a0_tape, .int 0, .ref a0_refused, .int 0, .ref a0_road, .int 0, .ref a0_bridge, .int 0, .ref a0_waggon, .int 0, .ref a0_part, .ref a0_asked, .ref a0_under, .int 0, .null, .int 0, .int 0, .int 0, .long 0, .int 0, .int 0, .ref a0_far, .int 0]))] H := hP
      have hD : va_D A [(a0, .inr (7, [.ref a0_shelf, .ref a0_rowSort, .ref a0_rowSize, .ref a0_rows, .ref a0_moved, .ref a0_shown, .ref a0_tape, .int 0, .ref a0_refused, .int 0, .ref a0_road, .int 0, .ref a0_bridge, .int 0, .ref a0_waggon, .int 0, .ref a0_part, .ref a0_asked, .ref a0_under, .int 0, .null, .int 0, .int 0, .int 0, .long 0, .int 0, .int 0, .ref a0_far, .int 0]))] := hD
      refine W.widen (k := 0) (n := 0) (Nat.le_refl _) (Nat.le_refl _) ?_
      refine W.widen (k := 0) (n := 0) (Nat.le_of_ble_eq_true rfl) (Nat.le_of_ble_eq_true rfl) ?_
      exact W.iret (v := (-2)) hx hb hr (fun t ht hW => ⟨⟨(-2), (), rfl, by unfold fX7_best; rw [if_neg c_1, if_pos c_2], ⟨by rw [ht]; exact hP.sub [] rfl, hD.sub [] (by decide) rfl⟩⟩, hS.F ht⟩) hS.2.2 dX7_best_32
    · refine lv_iload_n hx hb dX7_best_14 rfl (lv_at hl 3 rfl) ?_
      refine lv_i2l (v := Int32.toInt64 v_c) hx hb dX7_best_15 (by rfl) ?_
      refine lv_lconst (v := 0) hx hb dX7_best_16 (by decide) ?_
      refine lv_ldc2 (v := 2) hx hb hown (htg _ q_1162) dX7_best_17 ?_
      refine oh_pS (As := [.long (Int32.toInt64 v_c), .long 0, .long 2]) (rest := []) (v := fX7_in (Int32.toInt64 v_c) 0 2) ⟨hx, hb, hml, hown, htg⟩ (c_X7_in l D E G (Int32.toInt64 v_c) 0 2) (va_cwS 3 htg (oh_gS q_1066 q_1067 q_73 q_1068) rfl rfl rfl pdX7_in ⟨Nat.le_of_ble_eq_true rfl, Nat.le_of_ble_eq_true rfl⟩) hK (hP.sub (ws' := []) [] rfl) hG hS rfl hl.1 rfl (Nat.le_of_ble_eq_true rfl) dX7_best_20 ⟨Nat.le_of_ble_eq_true rfl, Nat.le_of_ble_eq_true rfl⟩ ?_
      refine lv_if_ne (tgt := 33) hx hb dX7_best_23 (by decide) (fun (c_3 : ¬ ((fX7_in (Int32.toInt64 v_c) 0 2) = 0)) => ?_) (fun (c_3 : (fX7_in (Int32.toInt64 v_c) 0 2) = 0) => ?_)
      · refine lv_iconst (v := (-1)) hx hb dX7_best_33 (by decide) ?_
        refine lv_istore (lv' := [(4, .int (-1)), (0, .ref a0), (1, .int v_a), (2, .int v_b), (3, .int v_c)]) hx hb dX7_best_34 hl (by decide) rfl (fun ls hl => ?_)
        refine lv_iconst (v := 0) hx hb dX7_best_36 (by decide) ?_
        refine lv_istore (lv' := [(5, .int 0), (4, .int (-1)), (0, .ref a0), (1, .int v_a), (2, .int v_b), (3, .int v_c)]) hx hb dX7_best_37 hl (by decide) rfl (fun ls hl => ?_)
        refine lv_iconst (v := 0) hx hb dX7_best_39 (by decide) ?_
        refine lv_istore (lv' := [(6, .int 0), (5, .int 0), (4, .int (-1)), (0, .ref a0), (1, .int v_a), (2, .int v_b), (3, .int v_c)]) hx hb dX7_best_40 hl (by decide) rfl (fun ls hl => ?_)
        refine lv_iload hx hb dX7_best_42 (lv_at hl 0 rfl) ?_
        refine lv_aload_n hx hb dX7_best_44 rfl (lv_at hl 3 rfl) ?_
        refine va_get (D := D) (ci := 7) (v := .int 0) (C := RX7) (T := TX7) (N := 29) hx hb htg ig_7 hown hK hP 0 rfl rfl 13 (by decide) (htg _ q_986) (fun _ h9 => h9) rfl dX7_best_45 ?_
        refine lv_icmp_ge (tgt := 123) hx hb dX7_best_48 (by decide) (fun _ => ?_) (fun c => absurd (show 0 ≤ (0 : Int32) from by decide) c)
        refine lv_iload hx hb dX7_best_123 (lv_at hl 2 rfl) ?_
        refine lv_iconst (v := (-1)) hx hb dX7_best_125 (by decide) ?_
        refine lv_icmp_ne (tgt := 136) hx hb dX7_best_126 (by decide) (fun c => absurd (show (-1 : Int32) = (-1) from by decide) c) (fun _ => ?_)
        refine lv_aload_n hx hb dX7_best_129 rfl (lv_at hl 3 rfl) ?_
        refine lv_bipush (v := (-5)) hx hb dX7_best_130 (by decide) ?_
        refine oh_mV (As := [.int (-5)]) (rest := []) (wr := []) ⟨hx, hb, hml, hown, htg⟩ (c_X7_refuse l D E G s.heap.size a0 (-5) a0_shelf a0_rowSort a0_rowSize a0_rows a0_moved a0_shown a0_tape a0_refused a0_road a0_bridge a0_waggon a0_part a0_asked a0_under a0_far (show vp_in (-(-5)) 8 by unfold vp_in; decide)) (cwV 1 htg (oh_gV q_1071 q_1073 q_29 q_73 q_1074) rfl rfl rfl pdVX7_refuse ⟨Nat.le_of_ble_eq_true rfl, Nat.le_of_ble_eq_true rfl⟩) hK hP hD hG hS hA [0, 1] [] rfl rfl (by decide) (by decide) (by decide) (va_recv hK hP (ci := 7) (q0 := 0) rfl rfl) rfl hl.1 rfl (Nat.le_of_ble_eq_true rfl) dX7_best_132 ⟨Nat.le_of_ble_eq_true rfl, Nat.le_of_ble_eq_true rfl⟩ (fun r_3 u H locs hw hP hD hS => ?_)
        subst hw
        have hP : va_P D vwCl [(a0, .inr (7, [.ref a0_shelf, .ref a0_rowSort, .ref a0_rowSize, .ref a0_rows, .ref a0_moved, .ref a0_shown, .ref a0_tape, .int 0, .ref a0_refused, .int 0, .ref a0_road, .int 0, .ref a0_bridge, .int 0, .ref a0_waggon, .int 0, .ref a0_part, .ref a0_asked, .ref a0_under, .int 0, .null, .int 0, .int 0, .int 0, .long 0, .int 0, .int 0, .ref a0_far, .int 0]))] H := hP
        have hD : va_D A [(a0, .inr (7, [.ref a0_shelf, .ref a0_rowSort, .ref a0_rowSize, .ref a0_rows, .ref a0_moved, .ref a0_shown, .ref a0_tape, .int 0, .ref a0_refused, .int 0, .ref a0_road, .int 0, .ref a0_bridge, .int 0, .ref a0_waggon, .int 0, .ref a0_part, .ref a0_asked, .ref a0_under, .int 0, .null, .int 0, .int 0, .int 0, .long 0, .int 0, .int 0, .ref a0_far, .int 0]))] := hD
        refine W.widen (k := 0) (n := 0) (Nat.le_refl _) (Nat.le_refl _) ?_
        refine W.widen (k := 0) (n := 0) (Nat.le_of_ble_eq_true rfl) (Nat.le_of_ble_eq_true rfl) ?_
        exact W.iret (v := (-5)) hx hb hr (fun t ht hW => ⟨⟨(-5), (), rfl, by unfold fX7_best; rw [if_neg c_1, if_neg c_2, if_neg c_3], ⟨by rw [ht]; exact hP.sub [] rfl, hD.sub [] (by decide) rfl⟩⟩, hS.F ht⟩) hS.2.2 dX7_best_135
      · refine lv_aload_n hx hb dX7_best_26 rfl (lv_at hl 0 rfl) ?_
        refine lv_bipush (v := (-2)) hx hb dX7_best_27 (by decide) ?_
        refine oh_mV (As := [.int (-2)]) (rest := []) (wr := []) ⟨hx, hb, hml, hown, htg⟩ (c_X7_refuse l D E G s.heap.size a0 (-2) a0_shelf a0_rowSort a0_rowSize a0_rows a0_moved a0_shown a0_tape a0_refused a0_road a0_bridge a0_waggon a0_part a0_asked a0_under a0_far (show vp_in (-(-2)) 8 by unfold vp_in; decide)) (cwV 1 htg (oh_gV q_1071 q_1073 q_29 q_73 q_1074) rfl rfl rfl pdVX7_refuse ⟨Nat.le_of_ble_eq_true rfl, Nat.le_of_ble_eq_true rfl⟩) hK hP hD hG hS hA [0, 1] [] rfl rfl (by decide) (by decide) (by decide) (va_recv hK hP (ci := 7) (q0 := 0) rfl rfl) rfl hl.1 rfl (Nat.le_of_ble_eq_true rfl) dX7_best_29 ⟨Nat.le_of_ble_eq_true rfl, Nat.le_of_ble_eq_true rfl⟩ (fun r_4 u H locs hw hP hD hS => ?_)
        subst hw
        have hP : va_P D vwCl [(a0, .inr (7, [.ref a0_shelf, .ref a0_rowSort, .ref a0_rowSize, .ref a0_rows, .ref a0_moved, .ref a0_shown, .ref a0_tape, .int 0, .ref a0_refused, .int 0, .ref a0_road, .int 0, .ref a0_bridge, .int 0, .ref a0_waggon, .int 0, .ref a0_part, .ref a0_asked, .ref a0_under, .int 0, .null, .int 0, .int 0, .int 0, .long 0, .int 0, .int 0, .ref a0_far, .int 0]))] H := hP
        have hD : va_D A [(a0, .inr (7, [.ref a0_shelf, .ref a0_rowSort, .ref a0_rowSize, .ref a0_rows, .ref a0_moved, .ref a0_shown, .ref a0_tape, .int 0, .ref a0_refused, .int 0, .ref a0_road, .int 0, .ref a0_bridge, .int 0, .ref a0_waggon, .int 0, .ref a0_part, .ref a0_asked, .ref a0_under, .int 0, .null, .int 0, .int 0, .int 0, .long 0, .int 0, .int 0, .ref a0_far, .int 0]))] := hD
        refine W.widen (k := 0) (n := 0) (Nat.le_refl _) (Nat.le_refl _) ?_
        refine W.widen (k := 0) (n := 0) (Nat.le_of_ble_eq_true rfl) (Nat.le_of_ble_eq_true rfl) ?_
        exact W.iret (v := (-2)) hx hb hr (fun t ht hW => ⟨⟨(-2), (), rfl, by unfold fX7_best; rw [if_neg c_1, if_neg c_2, if_pos c_3], ⟨by rw [ht]; exact hP.sub [] rfl, hD.sub [] (by decide) rfl⟩⟩, hS.F ht⟩) hS.2.2 dX7_best_32
set_option maxHeartbeats 4000000 in
set_option maxRecDepth 100000 in
theorem c_X7_step (l : Launch) (D : va_G) (E : Nat → ClassId) (G : Nat → Nat) (sz : Nat) (a0 : Nat) (a0_shelf : Nat) (a0_rowSort : Nat) (a0_rowSize : Nat) (a0_rows : Nat) (a0_moved : Nat) (a0_shown : Nat) (a0_tape : Nat) (a0_refused : Nat) (a0_road : Nat) (a0_bridge : Nat) (a0_waggon : Nat) (a0_part : Nat) (a0_asked : Nat) (a0_under : Nat) (a0_far : Nat) : Met l yX7_step (oh_w yX7_step cX7_step 7 (some .int)) ({ frames := 1, cells := 0, slots := 0, locals := 21 }) (oh_Pm D E G [.ref a0] [(a0, .inr (7, [.ref a0_shelf, .ref a0_rowSort, .ref a0_rowSize, .ref a0_rows, .ref a0_moved, .ref a0_shown, .ref a0_tape, .int 0, .ref a0_refused, .int 0, .ref a0_road, .int 0, .ref a0_bridge, .int 0, .ref a0_waggon, .int 0, .ref a0_part, .ref a0_asked, .ref a0_under, .int 0, .null, .int 0, .int 0, .int 0, .long 0, .int 0, .int 0, .ref a0_far, .int 0])), (a0_under, .inl (E 0, 7, .inl (fun _ => 0))), (a0_refused, .inl (E 0, 8, .inl (fun _ => 0)))] sz) (va_Qi (fun r (_ : Unit) => r = (-5)) (oh_B D (va_A [(a0, .inr (7, [.ref a0_shelf, .ref a0_rowSort, .ref a0_rowSize, .ref a0_rows, .ref a0_moved, .ref a0_shown, .ref a0_tape, .int 0, .ref a0_refused, .int 0, .ref a0_road, .int 0, .ref a0_bridge, .int 0, .ref a0_waggon, .int 0, .ref a0_part, .ref a0_asked, .ref a0_under, .int 0, .null, .int 0, .int 0, .int 0, .long 0, .int 0, .int 0, .ref a0_far, .int 0])), (a0_under, .inl (E 0, 7, .inl (fun _ => 0))), (a0_refused, .inl (E 0, 8, .inl (fun _ => 0)))] sz) (fun _ => [])) (va_A [(a0, .inr (7, [.ref a0_shelf, .ref a0_rowSort, .ref a0_rowSize, .ref a0_rows, .ref a0_moved, .ref a0_shown, .ref a0_tape, .int 0, .ref a0_refused, .int 0, .ref a0_road, .int 0, .ref a0_bridge, .int 0, .ref a0_waggon, .int 0, .ref a0_part, .ref a0_asked, .ref a0_under, .int 0, .null, .int 0, .int 0, .int 0, .long 0, .int 0, .int 0, .ref a0_far, .int 0])), (a0_under, .inl (E 0, 7, .inl (fun _ => 0))), (a0_refused, .inl (E 0, 8, .inl (fun _ => 0)))] sz)) 0 0 (va_A [(a0, .inr (7, [.ref a0_shelf, .ref a0_rowSort, .ref a0_rowSize, .ref a0_rows, .ref a0_moved, .ref a0_shown, .ref a0_tape, .int 0, .ref a0_refused, .int 0, .ref a0_road, .int 0, .ref a0_bridge, .int 0, .ref a0_waggon, .int 0, .ref a0_part, .ref a0_asked, .ref a0_under, .int 0, .null, .int 0, .int 0, .int 0, .long 0, .int 0, .int 0, .ref a0_far, .int 0])), (a0_under, .inl (E 0, 7, .inl (fun _ => 0))), (a0_refused, .inl (E 0, 8, .inl (fun _ => 0)))] sz) := by
  refine Met.ofW (cc := cX7_step) (maxL := 7) (ret := (some .int)) (by decide) rfl ?_
  intro p e s m args below meth c s₁ B hml hv
  obtain ⟨rfl, hsz, hP, hK, hD0, hG⟩ := hv
  have hx := B.exec
  have hb := B.bytes
  have hr := B.returns
  have hts := atoms_spec (ws := (oh_w yX7_step cX7_step 7 (some .int))) B.pre
  have htg : ∀ w ∈ oh_t, w.before _ s = true := fun w h => hts w (List.mem_cons_of_mem _ h)
  have hown : s.vm.findClass RX7 = some m.cls := findClass_of_methodNamed B.named
  have hlocks := B.notSynchronized
  subst hsz
  have hD := hD0.self (sz := s.heap.size)
  generalize hAe : va_A [(a0, .inr (7, [.ref a0_shelf, .ref a0_rowSort, .ref a0_rowSize, .ref a0_rows, .ref a0_moved, .ref a0_shown, .ref a0_tape, .int 0, .ref a0_refused, .int 0, .ref a0_road, .int 0, .ref a0_bridge, .int 0, .ref a0_waggon, .int 0, .ref a0_part, .ref a0_asked, .ref a0_under, .int 0, .null, .int 0, .int 0, .int 0, .long 0, .int 0, .int 0, .ref a0_far, .int 0])), (a0_under, .inl (E 0, 7, .inl (fun _ => 0))), (a0_refused, .inl (E 0, 8, .inl (fun _ => 0)))] s.heap.size = A at hD hG ⊢
  have hA : ∀ q : Nat, s.heap.size ≤ q → A q := fun q h => by rw [← hAe]; exact Or.inr h
  have hS : va_S A s.heap s.heap [] := va_S.rf
  have hP : va_P D vwCl [(a0, .inr (7, [.ref a0_shelf, .ref a0_rowSort, .ref a0_rowSize, .ref a0_rows, .ref a0_moved, .ref a0_shown, .ref a0_tape, .int 0, .ref a0_refused, .int 0, .ref a0_road, .int 0, .ref a0_bridge, .int 0, .ref a0_waggon, .int 0, .ref a0_part, .ref a0_asked, .ref a0_under, .int 0, .null, .int 0, .int 0, .int 0, .long 0, .int 0, .int 0, .ref a0_far, .int 0])), (a0_under, .inl (E 0, 7, .inl (fun _ => 0))), (a0_refused, .inl (E 0, 8, .inl (fun _ => 0)))] s.heap := hP
  have hl := lv_entry ([.ref a0]) (n := 7) (Nat.le_of_ble_eq_true rfl)
  rw [lg_entry_eq]
  generalize (lg_sl ([.ref a0]) ++ List.replicate (7 - (lg_sl ([.ref a0])).length) Slot.unset).toArray = ls at hl ⊢
  have hl : lv_has ls 7 [(0, .ref a0)] := hl
  refine lv_aload_n hx hb dX7_step_0 rfl (lv_at hl 0 rfl) ?_
  refine va_get (D := D) (ci := 7) (v := .ref a0_under) (C := RX7) (T := TX7) (N := 29) hx hb htg ig_7 hown hK hP 0 rfl rfl 18 (by decide) (htg _ q_991) (fun _ h9 => h9) rfl dX7_step_1 ?_
  refine lv_iconst (v := 0) hx hb dX7_step_4 (by decide) ?_
  refine va_iald hx hb hK hP 1 0 rfl rfl (show vp_in 0 7 by unfold vp_in; decide) dX7_step_5 ?_
  refine oh_nrm (v := 0) (by decide) ?_
  refine lv_if_eq (tgt := 24) hx hb dX7_step_6 (by decide) (fun _ => ?_) (fun c => absurd (show (0 : Int32) = 0 from by decide) c)
  refine lv_aload_n hx hb dX7_step_24 rfl (lv_at hl 0 rfl) ?_
  refine lv_bipush (v := (-5)) hx hb dX7_step_25 (by decide) ?_
  refine oh_mV (As := [.int (-5)]) (rest := []) (wr := [(a0_under, .inl (E 0, 7, .inl (fun _ => 0)))]) ⟨hx, hb, hml, hown, htg⟩ (c_X7_refuse l D E G s.heap.size a0 (-5) a0_shelf a0_rowSort a0_rowSize a0_rows a0_moved a0_shown a0_tape a0_refused a0_road a0_bridge a0_waggon a0_part a0_asked a0_under a0_far (show vp_in (-(-5)) 8 by unfold vp_in; decide)) (cwV 1 htg (oh_gV q_1071 q_1073 q_29 q_73 q_1074) rfl rfl rfl pdVX7_refuse ⟨Nat.le_of_ble_eq_true rfl, Nat.le_of_ble_eq_true rfl⟩) hK hP hD hG hS hA [0, 2] [1] rfl rfl (by decide) (by decide) (by decide) (va_recv hK hP (ci := 7) (q0 := 0) rfl rfl) rfl hl.1 rfl (Nat.le_of_ble_eq_true rfl) dX7_step_27 ⟨Nat.le_of_ble_eq_true rfl, Nat.le_of_ble_eq_true rfl⟩ (fun r_1 u H locs hw hP hD hS => ?_)
  subst hw
  have hP : va_P D vwCl [(a0_under, .inl (E 0, 7, .inl (fun _ => 0))), (a0, .inr (7, [.ref a0_shelf, .ref a0_rowSort, .ref a0_rowSize, .ref a0_rows, .ref a0_moved, .ref a0_shown, .ref a0_tape, .int 0, .ref a0_refused, .int 0, .ref a0_road, .int 0, .ref a0_bridge, .int 0, .ref a0_waggon, .int 0, .ref a0_part, .ref a0_asked, .ref a0_under, .int 0, .null, .int 0, .int 0, .int 0, .long 0, .int 0, .int 0, .ref a0_far, .int 0]))] H := hP
  have hD : va_D A [(a0_under, .inl (E 0, 7, .inl (fun _ => 0))), (a0, .inr (7, [.ref a0_shelf, .ref a0_rowSort, .ref a0_rowSize, .ref a0_rows, .ref a0_moved, .ref a0_shown, .ref a0_tape, .int 0, .ref a0_refused, .int 0, .ref a0_road, .int 0, .ref a0_bridge, .int 0, .ref a0_waggon, .int 0, .ref a0_part, .ref a0_asked, .ref a0_under, .int 0, .null, .int 0, .int 0, .int 0, .long 0, .int 0, .int 0, .ref a0_far, .int 0]))] := hD
  refine W.widen (k := 0) (n := 0) (Nat.le_refl _) (Nat.le_refl _) ?_
  refine W.widen (k := 0) (n := 0) (Nat.le_of_ble_eq_true rfl) (Nat.le_of_ble_eq_true rfl) ?_
  exact W.iret (v := (-5)) hx hb hr (fun t ht hW => ⟨⟨(-5), (), rfl, rfl, ⟨by rw [ht]; exact hP.sub [] rfl, hD.sub [] (by decide) rfl⟩⟩, hS.F ht⟩) hS.2.2 dX7_step_30
def fX7_under (v_a : Int32) : Int32 :=
  if (fX7_in (Int32.toInt64 v_a) 0 4) = 0 then (-2) else (-5)
set_option maxHeartbeats 4000000 in
set_option maxRecDepth 100000 in
theorem c_X7_under (l : Launch) (D : va_G) (E : Nat → ClassId) (G : Nat → Nat) (sz : Nat) (a0 : Nat) (v_a : Int32) (a0_shelf : Nat) (a0_rowSort : Nat) (a0_rowSize : Nat) (a0_rows : Nat) (a0_moved : Nat) (a0_shown : Nat) (a0_tape : Nat) (a0_refused : Nat) (a0_road : Nat) (a0_bridge : Nat) (a0_waggon : Nat) (a0_part : Nat) (a0_asked : Nat) (a0_under : Nat) (a0_far : Nat) : Met l yX7_under (oh_w yX7_under cX7_under 2 (some .int)) ({ frames := 1, cells := 0, slots := 0, locals := 25 }) (oh_Pm D E G [.ref a0, .int v_a] [(a0, .inr (7, [.ref a0_shelf, .ref a0_rowSort, .ref a0_rowSize, .ref a0_rows, .ref a0_moved, .ref a0_shown, .ref a0_tape, .int 0, .ref a0_refused, .int 0, .ref a0_road, .int 0, .ref a0_bridge, .int 0, .ref a0_waggon, .int 0, .ref a0_part, .ref a0_asked, .ref a0_under, .int 0, .null, .int 0, .int 0, .int 0, .long 0, .int 0, .int 0, .ref a0_far, .int 0])), (a0_under, .inl (E 0, 7, .inl (fun _ => 0))), (a0_refused, .inl (E 0, 8, .inl (fun _ => 0)))] sz) (va_Qi (fun r (_ : Unit) => r = fX7_under v_a) (oh_B D (va_A [(a0, .inr (7, [.ref a0_shelf, .ref a0_rowSort, .ref a0_rowSize, .ref a0_rows, .ref a0_moved, .ref a0_shown, .ref a0_tape, .int 0, .ref a0_refused, .int 0, .ref a0_road, .int 0, .ref a0_bridge, .int 0, .ref a0_waggon, .int 0, .ref a0_part, .ref a0_asked, .ref a0_under, .int 0, .null, .int 0, .int 0, .int 0, .long 0, .int 0, .int 0, .ref a0_far, .int 0])), (a0_under, .inl (E 0, 7, .inl (fun _ => 0))), (a0_refused, .inl (E 0, 8, .inl (fun _ => 0)))] sz) (fun _ => [])) (va_A [(a0, .inr (7, [.ref a0_shelf, .ref a0_rowSort, .ref a0_rowSize, .ref a0_rows, .ref a0_moved, .ref a0_shown, .ref a0_tape, .int 0, .ref a0_refused, .int 0, .ref a0_road, .int 0, .ref a0_bridge, .int 0, .ref a0_waggon, .int 0, .ref a0_part, .ref a0_asked, .ref a0_under, .int 0, .null, .int 0, .int 0, .int 0, .long 0, .int 0, .int 0, .ref a0_far, .int 0])), (a0_under, .inl (E 0, 7, .inl (fun _ => 0))), (a0_refused, .inl (E 0, 8, .inl (fun _ => 0)))] sz)) 0 0 (va_A [(a0, .inr (7, [.ref a0_shelf, .ref a0_rowSort, .ref a0_rowSize, .ref a0_rows, .ref a0_moved, .ref a0_shown, .ref a0_tape, .int 0, .ref a0_refused, .int 0, .ref a0_road, .int 0, .ref a0_bridge, .int 0, .ref a0_waggon, .int 0, .ref a0_part, .ref a0_asked, .ref a0_under, .int 0, .null, .int 0, .int 0, .int 0, .long 0, .int 0, .int 0, .ref a0_far, .int 0])), (a0_under, .inl (E 0, 7, .inl (fun _ => 0))), (a0_refused, .inl (E 0, 8, .inl (fun _ => 0)))] sz) := by
  refine Met.ofW (cc := cX7_under) (maxL := 2) (ret := (some .int)) (by decide) rfl ?_
  intro p e s m args below meth c s₁ B hml hv
  obtain ⟨rfl, hsz, hP, hK, hD0, hG⟩ := hv
  have hx := B.exec
  have hb := B.bytes
  have hr := B.returns
  have hts := atoms_spec (ws := (oh_w yX7_under cX7_under 2 (some .int))) B.pre
  have htg : ∀ w ∈ oh_t, w.before _ s = true := fun w h => hts w (List.mem_cons_of_mem _ h)
  have hown : s.vm.findClass RX7 = some m.cls := findClass_of_methodNamed B.named
  have hlocks := B.notSynchronized
  subst hsz
  have hD := hD0.self (sz := s.heap.size)
  generalize hAe : va_A [(a0, .inr (7, [.ref a0_shelf, .ref a0_rowSort, .ref a0_rowSize, .ref a0_rows, .ref a0_moved, .ref a0_shown, .ref a0_tape, .int 0, .ref a0_refused, .int 0, .ref a0_road, .int 0, .ref a0_bridge, .int 0, .ref a0_waggon, .int 0, .ref a0_part, .ref a0_asked, .ref a0_under, .int 0, .null, .int 0, .int 0, .int 0, .long 0, .int 0, .int 0, .ref a0_far, .int 0])), (a0_under, .inl (E 0, 7, .inl (fun _ => 0))), (a0_refused, .inl (E 0, 8, .inl (fun _ => 0)))] s.heap.size = A at hD hG ⊢
  have hA : ∀ q : Nat, s.heap.size ≤ q → A q := fun q h => by rw [← hAe]; exact Or.inr h
  have hS : va_S A s.heap s.heap [] := va_S.rf
  have hP : va_P D vwCl [(a0, .inr (7, [.ref a0_shelf, .ref a0_rowSort, .ref a0_rowSize, .ref a0_rows, .ref a0_moved, .ref a0_shown, .ref a0_tape, .int 0, .ref a0_refused, .int 0, .ref a0_road, .int 0, .ref a0_bridge, .int 0, .ref a0_waggon, .int 0, .ref a0_part, .ref a0_asked, .ref a0_under, .int 0, .null, .int 0, .int 0, .int 0, .long 0, .int 0, .int 0, .ref a0_far, .int 0])), (a0_under, .inl (E 0, 7, .inl (fun _ => 0))), (a0_refused, .inl (E 0, 8, .inl (fun _ => 0)))] s.heap := hP
  have hl := lv_entry ([.ref a0, .int v_a]) (n := 2) (Nat.le_of_ble_eq_true rfl)
  rw [lg_entry_eq]
  generalize (lg_sl ([.ref a0, .int v_a]) ++ List.replicate (2 - (lg_sl ([.ref a0, .int v_a])).length) Slot.unset).toArray = ls at hl ⊢
  have hl : lv_has ls 2 [(0, .ref a0), (1, .int v_a)] := hl
  refine lv_iload_n hx hb dX7_under_0 rfl (lv_at hl 1 rfl) ?_
  refine lv_i2l (v := Int32.toInt64 v_a) hx hb dX7_under_1 (by rfl) ?_
  refine lv_lconst (v := 0) hx hb dX7_under_2 (by decide) ?_
  refine lv_ldc2 (v := 4) hx hb hown (htg _ q_1069) dX7_under_3 ?_
  refine oh_pS (As := [.long (Int32.toInt64 v_a), .long 0, .long 4]) (rest := []) (v := fX7_in (Int32.toInt64 v_a) 0 4) ⟨hx, hb, hml, hown, htg⟩ (c_X7_in l D E G (Int32.toInt64 v_a) 0 4) (va_cwS 3 htg (oh_gS q_1066 q_1067 q_73 q_1068) rfl rfl rfl pdX7_in ⟨Nat.le_of_ble_eq_true rfl, Nat.le_of_ble_eq_true rfl⟩) hK (hP.sub (ws' := []) [] rfl) hG hS rfl hl.1 rfl (Nat.le_of_ble_eq_true rfl) dX7_under_6 ⟨Nat.le_of_ble_eq_true rfl, Nat.le_of_ble_eq_true rfl⟩ ?_
  refine lv_if_ne (tgt := 19) hx hb dX7_under_9 (by decide) (fun (c_1 : ¬ ((fX7_in (Int32.toInt64 v_a) 0 4) = 0)) => ?_) (fun (c_1 : (fX7_in (Int32.toInt64 v_a) 0 4) = 0) => ?_)
  · refine lv_aload_n hx hb dX7_under_19 rfl (lv_at hl 0 rfl) ?_
    refine va_get (D := D) (ci := 7) (v := .ref a0_under) (C := RX7) (T := TX7) (N := 29) hx hb htg ig_7 hown hK hP 0 rfl rfl 18 (by decide) (htg _ q_991) (fun _ h9 => h9) rfl dX7_under_20 ?_
    refine lv_iconst (v := 0) hx hb dX7_under_23 (by decide) ?_
    refine va_iald hx hb hK hP 1 0 rfl rfl (show vp_in 0 7 by unfold vp_in; decide) dX7_under_24 ?_
    refine oh_nrm (v := 0) (by decide) ?_
    refine lv_if_ne (tgt := 35) hx hb dX7_under_25 (by decide) (fun c => absurd (show (0 : Int32) = 0 from by decide) c) (fun _ => ?_)
    refine lv_aload_n hx hb dX7_under_28 rfl (lv_at hl 0 rfl) ?_
    refine lv_bipush (v := (-5)) hx hb dX7_under_29 (by decide) ?_
    refine oh_mV (As := [.int (-5)]) (rest := []) (wr := [(a0_under, .inl (E 0, 7, .inl (fun _ => 0)))]) ⟨hx, hb, hml, hown, htg⟩ (c_X7_refuse l D E G s.heap.size a0 (-5) a0_shelf a0_rowSort a0_rowSize a0_rows a0_moved a0_shown a0_tape a0_refused a0_road a0_bridge a0_waggon a0_part a0_asked a0_under a0_far (show vp_in (-(-5)) 8 by unfold vp_in; decide)) (cwV 1 htg (oh_gV q_1071 q_1073 q_29 q_73 q_1074) rfl rfl rfl pdVX7_refuse ⟨Nat.le_of_ble_eq_true rfl, Nat.le_of_ble_eq_true rfl⟩) hK hP hD hG hS hA [0, 2] [1] rfl rfl (by decide) (by decide) (by decide) (va_recv hK hP (ci := 7) (q0 := 0) rfl rfl) rfl hl.1 rfl (Nat.le_of_ble_eq_true rfl) dX7_under_31 ⟨Nat.le_of_ble_eq_true rfl, Nat.le_of_ble_eq_true rfl⟩ (fun r_1 u H locs hw hP hD hS => ?_)
    subst hw
    have hP : va_P D vwCl [(a0_under, .inl (E 0, 7, .inl (fun _ => 0))), (a0, .inr (7, [.ref a0_shelf, .ref a0_rowSort, .ref a0_rowSize, .ref a0_rows, .ref a0_moved, .ref a0_shown, .ref a0_tape, .int 0, .ref a0_refused, .int 0, .ref a0_road, .int 0, .ref a0_bridge, .int 0, .ref a0_waggon, .int 0, .ref a0_part, .ref a0_asked, .ref a0_under, .int 0, .null, .int 0, .int 0, .int 0, .long 0, .int 0, .int 0, .ref a0_far, .int 0]))] H := hP
    have hD : va_D A [(a0_under, .inl (E 0, 7, .inl (fun _ => 0))), (a0, .inr (7, [.ref a0_shelf, .ref a0_rowSort, .ref a0_rowSize, .ref a0_rows, .ref a0_moved, .ref a0_shown, .ref a0_tape, .int 0, .ref a0_refused, .int 0, .ref a0_road, .int 0, .ref a0_bridge, .int 0, .ref a0_waggon, .int 0, .ref a0_part, .ref a0_asked, .ref a0_under, .int 0, .null, .int 0, .int 0, .int 0, .long 0, .int 0, .int 0, .ref a0_far, .int 0]))] := hD
    refine W.widen (k := 0) (n := 0) (Nat.le_refl _) (Nat.le_refl _) ?_
    refine W.widen (k := 0) (n := 0) (Nat.le_of_ble_eq_true rfl) (Nat.le_of_ble_eq_true rfl) ?_
    exact W.iret (v := (-5)) hx hb hr (fun t ht hW => ⟨⟨(-5), (), rfl, by unfold fX7_under; rw [if_neg c_1], ⟨by rw [ht]; exact hP.sub [] rfl, hD.sub [] (by decide) rfl⟩⟩, hS.F ht⟩) hS.2.2 dX7_under_34
  · refine lv_aload_n hx hb dX7_under_12 rfl (lv_at hl 0 rfl) ?_
    refine lv_bipush (v := (-2)) hx hb dX7_under_13 (by decide) ?_
    refine oh_mV (As := [.int (-2)]) (rest := []) (wr := [(a0_under, .inl (E 0, 7, .inl (fun _ => 0)))]) ⟨hx, hb, hml, hown, htg⟩ (c_X7_refuse l D E G s.heap.size a0 (-2) a0_shelf a0_rowSort a0_rowSize a0_rows a0_moved a0_shown a0_tape a0_refused a0_road a0_bridge a0_waggon a0_part a0_asked a0_under a0_far (show vp_in (-(-2)) 8 by unfold vp_in; decide)) (cwV 1 htg (oh_gV q_1071 q_1073 q_29 q_73 q_1074) rfl rfl rfl pdVX7_refuse ⟨Nat.le_of_ble_eq_true rfl, Nat.le_of_ble_eq_true rfl⟩) hK hP hD hG hS hA [0, 2] [1] rfl rfl (by decide) (by decide) (by decide) (va_recv hK hP (ci := 7) (q0 := 0) rfl rfl) rfl hl.1 rfl (Nat.le_of_ble_eq_true rfl) dX7_under_15 ⟨Nat.le_of_ble_eq_true rfl, Nat.le_of_ble_eq_true rfl⟩ (fun r_2 u H locs hw hP hD hS => ?_)
    subst hw
    have hP : va_P D vwCl [(a0_under, .inl (E 0, 7, .inl (fun _ => 0))), (a0, .inr (7, [.ref a0_shelf, .ref a0_rowSort, .ref a0_rowSize, .ref a0_rows, .ref a0_moved, .ref a0_shown, .ref a0_tape, .int 0, .ref a0_refused, .int 0, .ref a0_road, .int 0, .ref a0_bridge, .int 0, .ref a0_waggon, .int 0, .ref a0_part, .ref a0_asked, .ref a0_under, .int 0, .null, .int 0, .int 0, .int 0, .long 0, .int 0, .int 0, .ref a0_far, .int 0]))] H := hP
    have hD : va_D A [(a0_under, .inl (E 0, 7, .inl (fun _ => 0))), (a0, .inr (7, [.ref a0_shelf, .ref a0_rowSort, .ref a0_rowSize, .ref a0_rows, .ref a0_moved, .ref a0_shown, .ref a0_tape, .int 0, .ref a0_refused, .int 0, .ref a0_road, .int 0, .ref a0_bridge, .int 0, .ref a0_waggon, .int 0, .ref a0_part, .ref a0_asked, .ref a0_under, .int 0, .null, .int 0, .int 0, .int 0, .long 0, .int 0, .int 0, .ref a0_far, .int 0]))] := hD
    refine W.widen (k := 0) (n := 0) (Nat.le_refl _) (Nat.le_refl _) ?_
    refine W.widen (k := 0) (n := 0) (Nat.le_of_ble_eq_true rfl) (Nat.le_of_ble_eq_true rfl) ?_
    exact W.iret (v := (-2)) hx hb hr (fun t ht hW => ⟨⟨(-2), (), rfl, by unfold fX7_under; rw [if_pos c_1], ⟨by rw [ht]; exact hP.sub [] rfl, hD.sub [] (by decide) rfl⟩⟩, hS.F ht⟩) hS.2.2 dX7_under_18
