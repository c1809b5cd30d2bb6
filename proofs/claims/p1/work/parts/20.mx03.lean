set_option maxHeartbeats 4000000 in
set_option maxRecDepth 100000 in
theorem c_X7_back (l : Launch) (D : va_G) (E : Nat → ClassId) (G : Nat → Nat) (sz : Nat) (a0 : Nat) (a0_shelf : Nat) (a0_rowSort : Nat) (a0_rowSize : Nat) (a0_rows : Nat) (a0_moved : Nat) (a0_shown : Nat) (a0_tape : Nat) (a0_refused : Nat) (a0_road : Nat) (a0_bridge : Nat) (a0_waggon : Nat) (a0_part : Nat) (a0_asked : Nat) (a0_under : Nat) (a0_far : Nat) : Met l yX7_back (oh_w yX7_back cX7_back 2 (some .int)) ({ frames := 1, cells := 0, slots := 0, locals := 21 }) (oh_Pm D E G [.ref a0] [(a0, .inr (7, [.ref a0_shelf, .ref a0_rowSort, .ref a0_rowSize, .ref a0_rows, .ref a0_moved, .ref a0_shown, .ref a0_tape, .int 0, .ref a0_refused, .int 0, .ref a0_road, .int 0, .ref a0_bridge, .int 0, .ref a0_waggon, .int 0, .ref a0_part, .ref a0_asked, .ref a0_under, .int 0, .null, .int 0, .int 0, .int 0, .long 0, .int 0, .int 0, .ref a0_far, .int 0])), (a0_refused, .inl (E 0, 8, .inl (fun _ => 0)))] sz) (va_Qi (fun r (_ : Unit) => r = (-5)) (oh_B D (va_A [(a0, .inr (7, [.ref a0_shelf, .ref a0_rowSort, .ref a0_rowSize, .ref a0_rows, .ref a0_moved, .ref a0_shown, .ref a0_tape, .int 0, .ref a0_refused, .int 0, .ref a0_road, .int 0, .ref a0_bridge, .int 0, .ref a0_waggon, .int 0, .ref a0_part, .ref a0_asked, .ref a0_under, .int 0, .null, .int 0, .int 0, .int 0, .long 0, .int 0, .int 0, .ref a0_far, .int 0])), (a0_refused, .inl (E 0, 8, .inl (fun _ => 0)))] sz) (fun _ => [])) (va_A [(a0, .inr (7, [.ref a0_shelf, .ref a0_rowSort, .ref a0_rowSize, .ref a0_rows, .ref a0_moved, .ref a0_shown, .ref a0_tape, .int 0, .ref a0_refused, .int 0, .ref a0_road, .int 0, .ref a0_bridge, .int 0, .ref a0_waggon, .int 0, .ref a0_part, .ref a0_asked, .ref a0_under, .int 0, .null, .int 0, .int 0, .int 0, .long 0, .int 0, .int 0, .ref a0_far, .int 0])), (a0_refused, .inl (E 0, 8, .inl (fun _ => 0)))] sz)) 0 0 (va_A [(a0, .inr (7, [.ref a0_shelf, .ref a0_rowSort, .ref a0_rowSize, .ref a0_rows, .ref a0_moved, .ref a0_shown, .ref a0_tape, .int 0, .ref a0_refused, .int 0, .ref a0_road, .int 0, .ref a0_bridge, .int 0, .ref a0_waggon, .int 0, .ref a0_part, .ref a0_asked, .ref a0_under, .int 0, .null, .int 0, .int 0, .int 0, .long 0, .int 0, .int 0, .ref a0_far, .int 0])), (a0_refused, .inl (E 0, 8, .inl (fun _ => 0)))] sz) := by
  refine Met.ofW (cc := cX7_back) (maxL := 2) (ret := (some .int)) (by decide) rfl ?_
  intro p e s m args below meth c s₁ B hml hv
  obtain ⟨rfl, hsz, hP, hK, hD0, hG⟩ := hv
  have hx := B.exec
  have hb := B.bytes
  have hr := B.returns
  have hts := atoms_spec (ws := (oh_w yX7_back cX7_back 2 (some .int))) B.pre
  have htg : ∀ w ∈ oh_t, w.before _ s = true := fun w h => hts w (List.mem_cons_of_mem _ h)
  have hown : s.vm.findClass RX7 = some m.cls := findClass_of_methodNamed B.named
  have hlocks := B.notSynchronized
  subst hsz
  have hD := hD0.self (sz := s.heap.size)
  generalize hAe : va_A [(a0, .inr (7, [.ref a0_shelf, .ref a0_rowSort, .ref a0_rowSize, .ref a0_rows, .ref a0_moved, .ref a0_shown, .ref a0_tape, .int 0, .ref a0_refused, .int 0, .ref a0_road, .int 0, .ref a0_bridge, .int 0, .ref a0_waggon, .int 0, .ref a0_part, .ref a0_asked, .ref a0_under, .int 0, .null, .int 0, .int 0, .int 0, .long 0, .int 0, .int 0, .ref a0_far, .int 0])), (a0_refused, .inl (E 0, 8, .inl (fun _ => 0)))] s.heap.size = A at hD hG ⊢
  have hA : ∀ q : Nat, s.heap.size ≤ q → A q := fun q h => by rw [← hAe]; exact Or.inr h
  have hS : va_S A s.heap s.heap [] := va_S.rf
  have hP : va_P D vwCl [(a0, .inr (7, [.ref a0_shelf, .ref a0_rowSort, .ref a0_rowSize, .ref a0_rows, .ref a0_moved, .ref a0_shown, .ref a0_tape, .int 0, .ref a0_refused, .int 0, .ref a0_road, .int 0, .ref a0_bridge, .int 0, .ref a0_waggon, .int 0, .ref a0_part, .ref a0_asked, .ref a0_under, .int 0, .null, .int 0, .int 0, .int 0, .long 0, .int 0, .int 0, .ref a0_far, .int 0])), (a0_refused, .inl (E 0, 8, .inl (fun _ => 0)))] s.heap := hP
  have hl := lv_entry ([.ref a0]) (n := 2) (Nat.le_of_ble_eq_true rfl)
  rw [lg_entry_eq]
  generalize (lg_sl ([.ref a0]) ++ List.replicate (2 - (lg_sl ([.ref a0])).length) Slot.unset).toArray = ls at hl ⊢
  have hl : lv_has ls 2 [(0, .ref a0)] := hl
  refine lv_aload_n hx hb dX7_back_0 rfl (lv_at hl 0 rfl) ?_
  refine va_get (D := D) (ci := 7) (v := .null) (C := RX7) (T := TX7) (N := 29) hx hb htg ig_7 hown hK hP 0 rfl rfl 20 (by decide) (htg _ q_993) (fun _ h9 => h9) rfl dX7_back_1 ?_
  refine lv_ifnonnullN hx hb dX7_back_4 ?_
  refine lv_aload_n hx hb dX7_back_7 rfl (lv_at hl 0 rfl) ?_
  refine lv_bipush (v := (-5)) hx hb dX7_back_8 (by decide) ?_
  refine oh_mV (As := [.int (-5)]) (rest := []) (wr := []) ⟨hx, hb, hml, hown, htg⟩ (c_X7_refuse l D E G s.heap.size a0 (-5) a0_shelf a0_rowSort a0_rowSize a0_rows a0_moved a0_shown a0_tape a0_refused a0_road a0_bridge a0_waggon a0_part a0_asked a0_under a0_far (show vp_in (-(-5)) 8 by unfold vp_in; decide)) (cwV 1 htg (oh_gV q_1071 q_1073 q_29 q_73 q_1074) rfl rfl rfl pdVX7_refuse ⟨Nat.le_of_ble_eq_true rfl, Nat.le_of_ble_eq_true rfl⟩) hK hP hD hG hS hA [0, 1] [] rfl rfl (by decide) (by decide) (by decide) (va_recv hK hP (ci := 7) (q0 := 0) rfl rfl) rfl hl.1 rfl (Nat.le_of_ble_eq_true rfl) dX7_back_10 ⟨Nat.le_of_ble_eq_true rfl, Nat.le_of_ble_eq_true rfl⟩ (fun r_1 u H locs hw hP hD hS => ?_)
  subst hw
  have hP : va_P D vwCl [(a0, .inr (7, [.ref a0_shelf, .ref a0_rowSort, .ref a0_rowSize, .ref a0_rows, .ref a0_moved, .ref a0_shown, .ref a0_tape, .int 0, .ref a0_refused, .int 0, .ref a0_road, .int 0, .ref a0_bridge, .int 0, .ref a0_waggon, .int 0, .ref a0_part, .ref a0_asked, .ref a0_under, .int 0, .null, .int 0, .int 0, .int 0, .long 0, .int 0, .int 0, .ref a0_far, .int 0]))] H := hP
  have hD : va_D A [(a0, .inr (7, [.ref a0_shelf, .ref a0_rowSort, .ref a0_rowSize, .ref a0_rows, .ref a0_moved, .ref a0_shown, .ref a0_tape, .int 0, .ref a0_refused, .int 0, .ref a0_road, .int 0, .ref a0_bridge, .int 0, .ref a0_waggon, .int 0, .ref a0_part, .ref a0_asked, .ref a0_under, .int 0, .null, .int 0, .int 0, .int 0, .long 0, .int 0, .int 0, .ref a0_far, .int 0]))] := hD
  refine W.widen (k := 0) (n := 0) (Nat.le_refl _) (Nat.le_refl _) ?_
  refine W.widen (k := 0) (n := 0) (Nat.le_of_ble_eq_true rfl) (Nat.le_of_ble_eq_true rfl) ?_
  exact W.iret (v := (-5)) hx hb hr (fun t ht hW => ⟨⟨(-5), (), rfl, rfl, ⟨by rw [ht]; exact hP.sub [] rfl, hD.sub [] (by decide) rfl⟩⟩, hS.F ht⟩) hS.2.2 dX7_back_13
set_option maxHeartbeats 4000000 in
set_option maxRecDepth 100000 in
theorem c_X7_wipe (l : Launch) (D : va_G) (E : Nat → ClassId) (G : Nat → Nat) (sz : Nat) (a0 : Nat) (a0_shelf : Nat) (a0_rowSort : Nat) (a0_rowSize : Nat) (a0_rows : Nat) (a0_moved : Nat) (a0_shown : Nat) (a0_tape : Nat) (a0_refused : Nat) (a0_road : Nat) (a0_bridge : Nat) (a0_waggon : Nat) (a0_part : Nat) (a0_asked : Nat) (a0_under : Nat) (a0_far : Nat) : Met l yX7_wipe (oh_w yX7_wipe cX7_wipe 2 (some .int)) ({ frames := 0, cells := 0, slots := 0, locals := 0 }) (oh_Pm D E G [.ref a0] [(a0, .inr (7, [.ref a0_shelf, .ref a0_rowSort, .ref a0_rowSize, .ref a0_rows, .ref a0_moved, .ref a0_shown, .ref a0_tape, .int 0, .ref a0_refused, .int 0, .ref a0_road, .int 0, .ref a0_bridge, .int 0, .ref a0_waggon, .int 0, .ref a0_part, .ref a0_asked, .ref a0_under, .int 0, .null, .int 0, .int 0, .int 0, .long 0, .int 0, .int 0, .ref a0_far, .int 0]))] sz) (va_Qi (fun r (_ : Unit) => r = 0) (oh_B D (va_A [(a0, .inr (7, [.ref a0_shelf, .ref a0_rowSort, .ref a0_rowSize, .ref a0_rows, .ref a0_moved, .ref a0_shown, .ref a0_tape, .int 0, .ref a0_refused, .int 0, .ref a0_road, .int 0, .ref a0_bridge, .int 0, .ref a0_waggon, .int 0, .ref a0_part, .ref a0_asked, .ref a0_under, .int 0, .null, .int 0, .int 0, .int 0, .long 0, .int 0, .int 0, .ref a0_far, .int 0]))] sz) (fun _ => [])) (va_A [(a0, .inr (7, [.ref a0_shelf, .ref a0_rowSort, .ref a0_rowSize, .ref a0_rows, .ref a0_moved, .ref a0_shown, .ref a0_tape, .int 0, .ref a0_refused, .int 0, .ref a0_road, .int 0, .ref a0_bridge, .int 0, .ref a0_waggon, .int 0, .ref a0_part, .ref a0_asked, .ref a0_under, .int 0, .null, .int 0, .int 0, .int 0, .long 0, .int 0, .int 0, .ref a0_far, .int 0]))] sz)) 0 0 (va_A [(a0, .inr (7, [.ref a0_shelf, .ref a0_rowSort, .ref a0_rowSize, .ref a0_rows, .ref a0_moved, .ref a0_shown, .ref a0_tape, .int 0, .ref a0_refused, .int 0, .ref a0_road, .int 0, .ref a0_bridge, .int 0, .ref a0_waggon, .int 0, .ref a0_part, .ref a0_asked, .ref a0_under, .int 0, .null, .int 0, .int 0, .int 0, .long 0, .int 0, .int 0, .ref a0_far, .int 0]))] sz) := by
  refine Met.ofW (cc := cX7_wipe) (maxL := 2) (ret := (some .int)) (by decide) rfl ?_
  intro p e s m args below meth c s₁ B hml hv
  obtain ⟨rfl, hsz, hP, hK, hD0, hG⟩ := hv
  have hx := B.exec
  have hb := B.bytes
  have hr := B.returns
  have hts := atoms_spec (ws := (oh_w yX7_wipe cX7_wipe 2 (some .int))) B.pre
  have htg : ∀ w ∈ oh_t, w.before _ s = true := fun w h => hts w (List.mem_cons_of_mem _ h)
  have hown : s.vm.findClass RX7 = some m.cls := findClass_of_methodNamed B.named
  have hlocks := B.notSynchronized
  subst hsz
  have hD := hD0.self (sz := s.heap.size)
  generalize hAe : va_A [(a0, .inr (7, [.ref a0_shelf, .ref a0_rowSort, .ref a0_rowSize, .ref a0_rows, .ref a0_moved, .ref a0_shown, .ref a0_tape, .int 0, .ref a0_refused, .int 0, .ref a0_road, .int 0, .ref a0_bridge, .int 0, .ref a0_waggon, .int 0, .ref a0_part, .ref a0_asked, .ref a0_under, .int 0, .null, .int 0, .int 0, .int 0, .long 0, .int 0, .int 0, .ref a0_far, .int 0]))] s.heap.size = A at hD hG ⊢
  have hA : ∀ q : Nat, s.heap.size ≤ q → A q := fun q h => by rw [← hAe]; exact Or.inr h
  have hS : va_S A s.heap s.heap [] := va_S.rf
  have hP : va_P D vwCl [(a0, .inr (7, [.ref a0_shelf, .ref a0_rowSort, .ref a0_rowSize, .ref a0_rows, .ref a0_moved, .ref a0_shown, .ref a0_tape, .int 0, .ref a0_refused, .int 0, .ref a0_road, .int 0, .ref a0_bridge, .int 0, .ref a0_waggon, .int 0, .ref a0_part, .ref a0_asked, .ref a0_under, .int 0, .null, .int 0, .int 0, .int 0, .long 0, .int 0, .int 0, .ref a0_far, .int 0]))] s.heap := hP
  have hl := lv_entry ([.ref a0]) (n := 2) (Nat.le_of_ble_eq_true rfl)
  rw [lg_entry_eq]
  generalize (lg_sl ([.ref a0]) ++ List.replicate (2 - (lg_sl ([.ref a0])).length) Slot.unset).toArray = ls at hl ⊢
  have hl : lv_has ls 2 [(0, .ref a0)] := hl
  refine lv_aload_n hx hb dX7_wipe_0 rfl (lv_at hl 0 rfl) ?_
  refine va_get (D := D) (ci := 7) (v := .int 0) (C := RX7) (T := TX7) (N := 29) hx hb htg ig_7 hown hK hP 0 rfl rfl 7 (by decide) (htg _ q_980) (fun _ h9 => h9) rfl dX7_wipe_1 ?_
  refine lv_istore_n (lv' := [(1, .int 0), (0, .ref a0)]) hx hb dX7_wipe_4 rfl hl (by decide) rfl (fun ls hl => ?_)
  refine lv_aload_n hx hb dX7_wipe_5 rfl (lv_at hl 1 rfl) ?_
  refine lv_iconst (v := 0) hx hb dX7_wipe_6 (by decide) ?_
  refine va_put (D := D) (ci := 7) (v := .int 0) (ty := .int) (C := RX7) (T := TX7) (N := 29) hx hb htg ig_7 tyX7 tyX7_ok nmX7 hown hK hP hD hS 0 rfl rfl 7 (by decide) (htg _ q_980) (fun _ h9 => h9) rfl (by decide +kernel) rfl rfl (Nat.le_of_ble_eq_true rfl) dX7_wipe_7 (fun H locs hP hD hS => ?_)
  have hP : va_P D vwCl [(a0, .inr (7, [.ref a0_shelf, .ref a0_rowSort, .ref a0_rowSize, .ref a0_rows, .ref a0_moved, .ref a0_shown, .ref a0_tape, .int 0, .ref a0_refused, .int 0, .ref a0_road, .int 0, .ref a0_bridge, .int 0, .ref a0_waggon, .int 0, .ref a0_part, .ref a0_asked, .ref a0_under, .int 0, .null, .int 0, .int 0, .int 0, .long 0, .int 0, .int 0, .ref a0_far, .int 0]))] H := hP
  have hD : va_D A [(a0, .inr (7, [.ref a0_shelf, .ref a0_rowSort, .ref a0_rowSize, .ref a0_rows, .ref a0_moved, .ref a0_shown, .ref a0_tape, .int 0, .ref a0_refused, .int 0, .ref a0_road, .int 0, .ref a0_bridge, .int 0, .ref a0_waggon, .int 0, .ref a0_part, .ref a0_asked, .ref a0_under, .int 0, .null, .int 0, .int 0, .int 0, .long 0, .int 0, .int 0, .ref a0_far, .int 0]))] := hD
  refine lv_iload_n hx hb dX7_wipe_10 rfl (lv_at hl 0 rfl) ?_
  refine W.widen (k := 0) (n := 0) (Nat.le_of_ble_eq_true rfl) (Nat.le_of_ble_eq_true rfl) ?_
  exact W.iret (v := 0) hx hb hr (fun t ht hW => ⟨⟨0, (), rfl, rfl, ⟨by rw [ht]; exact hP.sub [] rfl, hD.sub [] (by decide) rfl⟩⟩, hS.F ht⟩) hS.2.2 dX7_wipe_11
