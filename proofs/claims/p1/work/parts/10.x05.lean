set_option maxHeartbeats 4000000 in
set_option maxRecDepth 100000 in
theorem c_X0_become (l : Launch) (D : va_G) (E : Nat → ClassId) (G : Nat → Nat) (sz : Nat) (a0 : Nat) (b0 : Nat) (a0_counts : Nat) (a0_roads : Nat) (a0_bridges : Nat) (a0_waggons : Nat) (a0_parts : Nat) (a0_settings : Nat) (a0_trip : Nat) (b0_counts : Nat) (b0_roads : Nat) (b0_bridges : Nat) (b0_waggons : Nat) (b0_parts : Nat) (b0_settings : Nat) (b0_trip : Nat) : Met l yX0_become (oh_w yX0_become cX0_become 2 none) ({ frames := 1, cells := 0, slots := 0, locals := 18 }) (oh_Pm D E G [.ref a0, .ref b0] [(a0, .inr (0, [.ref a0_counts, .ref a0_roads, .ref a0_bridges, .ref a0_waggons, .ref a0_parts, .ref a0_settings, .ref a0_trip, .int 0])), (a0_counts, .inl (E 0, 4, .inl (fun _ => 0))), (a0_roads, .inl (E 0, 168, .inl (fun _ => 0))), (a0_bridges, .inl (E 0, 160, .inl (fun _ => 0))), (a0_waggons, .inl (E 0, 15, .inl (fun _ => 0))), (a0_parts, .inl (E 0, 10, .inl (fun _ => 0))), (a0_settings, .inl (E 0, 3, .inl (upd (upd (fun _ => 0) 0 100) 1 2))), (a0_trip, .inl (E 0, 7, .inl (fun _ => 0))), (b0, .inr (0, [.ref b0_counts, .ref b0_roads, .ref b0_bridges, .ref b0_waggons, .ref b0_parts, .ref b0_settings, .ref b0_trip, .int 0])), (b0_counts, .inl (E 0, 4, .inl (fun _ => 0))), (b0_roads, .inl (E 0, 168, .inl (fun _ => 0))), (b0_bridges, .inl (E 0, 160, .inl (fun _ => 0))), (b0_waggons, .inl (E 0, 15, .inl (fun _ => 0))), (b0_parts, .inl (E 0, 10, .inl (fun _ => 0))), (b0_settings, .inl (E 0, 3, .inl (upd (upd (fun _ => 0) 0 100) 1 2))), (b0_trip, .inl (E 0, 7, .inl (fun _ => 0)))] sz) (va_Qv (fun (_ : Unit) => True) (oh_B D (va_A [(a0, .inr (0, [.ref a0_counts, .ref a0_roads, .ref a0_bridges, .ref a0_waggons, .ref a0_parts, .ref a0_settings, .ref a0_trip, .int 0])), (a0_counts, .inl (E 0, 4, .inl (fun _ => 0))), (a0_roads, .inl (E 0, 168, .inl (fun _ => 0))), (a0_bridges, .inl (E 0, 160, .inl (fun _ => 0))), (a0_waggons, .inl (E 0, 15, .inl (fun _ => 0))), (a0_parts, .inl (E 0, 10, .inl (fun _ => 0))), (a0_settings, .inl (E 0, 3, .inl (upd (upd (fun _ => 0) 0 100) 1 2))), (a0_trip, .inl (E 0, 7, .inl (fun _ => 0))), (b0, .inr (0, [.ref b0_counts, .ref b0_roads, .ref b0_bridges, .ref b0_waggons, .ref b0_parts, .ref b0_settings, .ref b0_trip, .int 0])), (b0_counts, .inl (E 0, 4, .inl (fun _ => 0))), (b0_roads, .inl (E 0, 168, .inl (fun _ => 0))), (b0_bridges, .inl (E 0, 160, .inl (fun _ => 0))), (b0_waggons, .inl (E 0, 15, .inl (fun _ => 0))), (b0_parts, .inl (E 0, 10, .inl (fun _ => 0))), (b0_settings, .inl (E 0, 3, .inl (upd (upd (fun _ => 0) 0 100) 1 2))), (b0_trip, .inl (E 0, 7, .inl (fun _ => 0)))] sz) (fun _ => [])) (va_A [(a0, .inr (0, [.ref a0_counts, .ref a0_roads, .ref a0_bridges, .ref a0_waggons, .ref a0_parts, .ref a0_settings, .ref a0_trip, .int 0])), (a0_counts, .inl (E 0, 4, .inl (fun _ => 0))), (a0_roads, .inl (E 0, 168, .inl (fun _ => 0))), (a0_bridges, .inl (E 0, 160, .inl (fun _ => 0))), (a0_waggons, .inl (E 0, 15, .inl (fun _ => 0))), (a0_parts, .inl (E 0, 10, .inl (fun _ => 0))), (a0_settings, .inl (E 0, 3, .inl (upd (upd (fun _ => 0) 0 100) 1 2))), (a0_trip, .inl (E 0, 7, .inl (fun _ => 0))), (b0, .inr (0, [.ref b0_counts, .ref b0_roads, .ref b0_bridges, .ref b0_waggons, .ref b0_parts, .ref b0_settings, .ref b0_trip, .int 0])), (b0_counts, .inl (E 0, 4, .inl (fun _ => 0))), (b0_roads, .inl (E 0, 168, .inl (fun _ => 0))), (b0_bridges, .inl (E 0, 160, .inl (fun _ => 0))), (b0_waggons, .inl (E 0, 15, .inl (fun _ => 0))), (b0_parts, .inl (E 0, 10, .inl (fun _ => 0))), (b0_settings, .inl (E 0, 3, .inl (upd (upd (fun _ => 0) 0 100) 1 2))), (b0_trip, .inl (E 0, 7, .inl (fun _ => 0)))] sz)) 0 0 (va_A [(a0, .inr (0, [.ref a0_counts, .ref a0_roads, .ref a0_bridges, .ref a0_waggons, .ref a0_parts, .ref a0_settings, .ref a0_trip, .int 0])), (a0_counts, .inl (E 0, 4, .inl (fun _ => 0))), (a0_roads, .inl (E 0, 168, .inl (fun _ => 0))), (a0_bridges, .inl (E 0, 160, .inl (fun _ => 0))), (a0_waggons, .inl (E 0, 15, .inl (fun _ => 0))), (a0_parts, .inl (E 0, 10, .inl (fun _ => 0))), (a0_settings, .inl (E 0, 3, .inl (upd (upd (fun _ => 0) 0 100) 1 2))), (a0_trip, .inl (E 0, 7, .inl (fun _ => 0))), (b0, .inr (0, [.ref b0_counts, .ref b0_roads, .ref b0_bridges, .ref b0_waggons, .ref b0_parts, .ref b0_settings, .ref b0_trip, .int 0])), (b0_counts, .inl (E 0, 4, .inl (fun _ => 0))), (b0_roads, .inl (E 0, 168, .inl (fun _ => 0))), (b0_bridges, .inl (E 0, 160, .inl (fun _ => 0))), (b0_waggons, .inl (E 0, 15, .inl (fun _ => 0))), (b0_parts, .inl (E 0, 10, .inl (fun _ => 0))), (b0_settings, .inl (E 0, 3, .inl (upd (upd (fun _ => 0) 0 100) 1 2))), (b0_trip, .inl (E 0, 7, .inl (fun _ => 0)))] sz) := by
  refine Met.ofW (cc := cX0_become) (maxL := 2) (ret := none) (by decide) rfl ?_
  intro p e s m args below meth c s₁ B hml hv
  obtain ⟨rfl, hsz, hP, hK, hD0, hG⟩ := hv
  have hx := B.exec
  have hb := B.bytes
  have hr := B.returns
  have hts := atoms_spec (ws := (oh_w yX0_become cX0_become 2 none)) B.pre
  have htg : ∀ w ∈ oh_t, w.before _ s = true := fun w h => hts w (List.mem_cons_of_mem _ h)
  have hown : s.vm.findClass RX0 = some m.cls := findClass_of_methodNamed B.named
  have hlocks := B.notSynchronized
  subst hsz
  have hD := hD0.self (sz := s.heap.size)
  generalize hAe : va_A [(a0, .inr (0, [.ref a0_counts, .ref a0_roads, .ref a0_bridges, .ref a0_waggons, .ref a0_parts, .ref a0_settings, .ref a0_trip, .int 0])), (a0_counts, .inl (E 0, 4, .inl (fun _ => 0))), (a0_roads, .inl (E 0, 168, .inl (fun _ => 0))), (a0_bridges, .inl (E 0, 160, .inl (fun _ => 0))), (a0_waggons, .inl (E 0, 15, .inl (fun _ => 0))), (a0_parts, .inl (E 0, 10, .inl (fun _ => 0))), (a0_settings, .inl (E 0, 3, .inl (upd (upd (fun _ => 0) 0 100) 1 2))), (a0_trip, .inl (E 0, 7, .inl (fun _ => 0))), (b0, .inr (0, [.ref b0_counts, .ref b0_roads, .ref b0_bridges, .ref b0_waggons, .ref b0_parts, .ref b0_settings, .ref b0_trip, .int 0])), (b0_counts, .inl (E 0, 4, .inl (fun _ => 0))), (b0_roads, .inl (E 0, 168, .inl (fun _ => 0))), (b0_bridges, .inl (E 0, 160, .inl (fun _ => 0))), (b0_waggons, .inl (E 0, 15, .inl (fun _ => 0))), (b0_parts, .inl (E 0, 10, .inl (fun _ => 0))), (b0_settings, .inl (E 0, 3, .inl (upd (upd (fun _ => 0) 0 100) 1 2))), (b0_trip, .inl (E 0, 7, .inl (fun _ => 0)))] s.heap.size = A at hD hG ⊢
  have hA : ∀ q : Nat, s.heap.size ≤ q → A q := fun q h => by rw [← hAe]; exact Or.inr h
  have hS : va_S A s.heap s.heap [] := va_S.rf
  have hP : va_P D vwCl [(a0, .inr (0, [.ref a0_counts, .ref a0_roads, .ref a0_bridges, .ref a0_waggons, .ref a0_parts, .ref a0_settings, .ref a0_trip, .int 0])), (a0_counts, .inl (E 0, 4, .inl (fun _ => 0))), (a0_roads, .inl (E 0, 168, .inl (fun _ => 0))), (a0_bridges, .inl (E 0, 160, .inl (fun _ => 0))), (a0_waggons, .inl (E 0, 15, .inl (fun _ => 0))), (a0_parts, .inl (E 0, 10, .inl (fun _ => 0))), (a0_settings, .inl (E 0, 3, .inl (upd (upd (fun _ => 0) 0 100) 1 2))), (a0_trip, .inl (E 0, 7, .inl (fun _ => 0))), (b0, .inr (0, [.ref b0_counts, .ref b0_roads, .ref b0_bridges, .ref b0_waggons, .ref b0_parts, .ref b0_settings, .ref b0_trip, .int 0])), (b0_counts, .inl (E 0, 4, .inl (fun _ => 0))), (b0_roads, .inl (E 0, 168, .inl (fun _ => 0))), (b0_bridges, .inl (E 0, 160, .inl (fun _ => 0))), (b0_waggons, .inl (E 0, 15, .inl (fun _ => 0))), (b0_parts, .inl (E 0, 10, .inl (fun _ => 0))), (b0_settings, .inl (E 0, 3, .inl (upd (upd (fun _ => 0) 0 100) 1 2))), (b0_trip, .inl (E 0, 7, .inl (fun _ => 0)))] s.heap := hP
  have hl := lv_entry ([.ref a0, .ref b0]) (n := 2) (Nat.le_of_ble_eq_true rfl)
  rw [lg_entry_eq]
  generalize (lg_sl ([.ref a0, .ref b0]) ++ List.replicate (2 - (lg_sl ([.ref a0, .ref b0])).length) Slot.unset).toArray = ls at hl ⊢
  have hl : lv_has ls 2 [(0, .ref a0), (1, .ref b0)] := hl
  refine lv_aload_n hx hb dX0_become_0 rfl (lv_at hl 1 rfl) ?_
  refine va_get (D := D) (ci := 0) (v := .ref b0_counts) (C := RX0) (T := TX0) (N := 8) hx hb htg ig_0 hown hK hP 8 rfl rfl 0 (by decide) (htg _ q_97) (fun _ h9 => h9) rfl dX0_become_1 ?_
  refine lv_iconst (v := 0) hx hb dX0_become_4 (by decide) ?_
  refine lv_aload_n hx hb dX0_become_5 rfl (lv_at hl 0 rfl) ?_
  refine va_get (D := D) (ci := 0) (v := .ref a0_counts) (C := RX0) (T := TX0) (N := 8) hx hb htg ig_0 hown hK hP 0 rfl rfl 0 (by decide) (htg _ q_97) (fun _ h9 => h9) rfl dX0_become_6 ?_
  refine lv_iconst (v := 0) hx hb dX0_become_9 (by decide) ?_
  refine lv_aload_n hx hb dX0_become_10 rfl (lv_at hl 0 rfl) ?_
  refine va_get (D := D) (ci := 0) (v := .ref a0_counts) (C := RX0) (T := TX0) (N := 8) hx hb htg ig_0 hown hK hP 0 rfl rfl 0 (by decide) (htg _ q_97) (fun _ h9 => h9) rfl dX0_become_11 ?_
  refine va_alen (v := 4) hx hb hK hP 1 0 rfl rfl (by decide) dX0_become_14 ?_
  refine va_copyi (ty := .int) hx hb (by rw [hml]; exact hl.1.symm) hown (htg _ q_941) (htg _ q_347) (htg _ q_346) (htg _ q_74) hK hP hD hS 9 1 0 0 rfl rfl rfl rfl rfl (by decide) (by decide) (by decide) (by decide) (by decide) (fun _ _ => rfl) (Nat.le_of_ble_eq_true rfl) (Nat.le_of_ble_eq_true rfl) dX0_become_15 (fun H locs hP hD hS => ?_)
  have hP : va_P D vwCl [(a0, .inr (0, [.ref a0_counts, .ref a0_roads, .ref a0_bridges, .ref a0_waggons, .ref a0_parts, .ref a0_settings, .ref a0_trip, .int 0])), (a0_counts, .inl (E 0, 4, .inl (va_cpy (fun _ => 0) (fun _ => 0) 0 0 4))), (a0_roads, .inl (E 0, 168, .inl (fun _ => 0))), (a0_bridges, .inl (E 0, 160, .inl (fun _ => 0))), (a0_waggons, .inl (E 0, 15, .inl (fun _ => 0))), (a0_parts, .inl (E 0, 10, .inl (fun _ => 0))), (a0_settings, .inl (E 0, 3, .inl (upd (upd (fun _ => 0) 0 100) 1 2))), (a0_trip, .inl (E 0, 7, .inl (fun _ => 0))), (b0, .inr (0, [.ref b0_counts, .ref b0_roads, .ref b0_bridges, .ref b0_waggons, .ref b0_parts, .ref b0_settings, .ref b0_trip, .int 0])), (b0_counts, .inl (E 0, 4, .inl (fun _ => 0))), (b0_roads, .inl (E 0, 168, .inl (fun _ => 0))), (b0_bridges, .inl (E 0, 160, .inl (fun _ => 0))), (b0_waggons, .inl (E 0, 15, .inl (fun _ => 0))), (b0_parts, .inl (E 0, 10, .inl (fun _ => 0))), (b0_settings, .inl (E 0, 3, .inl (upd (upd (fun _ => 0) 0 100) 1 2))), (b0_trip, .inl (E 0, 7, .inl (fun _ => 0)))] H := hP
  have hD : va_D A [(a0, .inr (0, [.ref a0_counts, .ref a0_roads, .ref a0_bridges, .ref a0_waggons, .ref a0_parts, .ref a0_settings, .ref a0_trip, .int 0])), (a0_counts, .inl (E 0, 4, .inl (va_cpy (fun _ => 0) (fun _ => 0) 0 0 4))), (a0_roads, .inl (E 0, 168, .inl (fun _ => 0))), (a0_bridges, .inl (E 0, 160, .inl (fun _ => 0))), (a0_waggons, .inl (E 0, 15, .inl (fun _ => 0))), (a0_parts, .inl (E 0, 10, .inl (fun _ => 0))), (a0_settings, .inl (E 0, 3, .inl (upd (upd (fun _ => 0) 0 100) 1 2))), (a0_trip, .inl (E 0, 7, .inl (fun _ => 0))), (b0, .inr (0, [.ref b0_counts, .ref b0_roads, .ref b0_bridges, .ref b0_waggons, .ref b0_parts, .ref b0_settings, .ref b0_trip, .int 0])), (b0_counts, .inl (E 0, 4, .inl (fun _ => 0))), (b0_roads, .inl (E 0, 168, .inl (fun _ => 0))), (b0_bridges, .inl (E 0, 160, .inl (fun _ => 0))), (b0_waggons, .inl (E 0, 15, .inl (fun _ => 0))), (b0_parts, .inl (E 0, 10, .inl (fun _ => 0))), (b0_settings, .inl (E 0, 3, .inl (upd (upd (fun _ => 0) 0 100) 1 2))), (b0_trip, .inl (E 0, 7, .inl (fun _ => 0)))] := hD
  refine lv_aload_n hx hb dX0_become_18 rfl (lv_at hl 1 rfl) ?_
  refine va_get (D := D) (ci := 0) (v := .ref b0_roads) (C := RX0) (T := TX0) (N := 8) hx hb htg ig_0 hown hK hP 8 rfl rfl 1 (by decide) (htg _ q_101) (fun _ h9 => h9) rfl dX0_become_19 ?_
  refine lv_iconst (v := 0) hx hb dX0_become_22 (by decide) ?_
  refine lv_aload_n hx hb dX0_become_23 rfl (lv_at hl 0 rfl) ?_
  refine va_get (D := D) (ci := 0) (v := .ref a0_roads) (C := RX0) (T := TX0) (N := 8) hx hb htg ig_0 hown hK hP 0 rfl rfl 1 (by decide) (htg _ q_101) (fun _ h9 => h9) rfl dX0_become_24 ?_
  refine lv_iconst (v := 0) hx hb dX0_become_27 (by decide) ?_
  refine lv_aload_n hx hb dX0_become_28 rfl (lv_at hl 0 rfl) ?_
  refine va_get (D := D) (ci := 0) (v := .ref a0_roads) (C := RX0) (T := TX0) (N := 8) hx hb htg ig_0 hown hK hP 0 rfl rfl 1 (by decide) (htg _ q_101) (fun _ h9 => h9) rfl dX0_become_29 ?_
  refine va_alen (v := 168) hx hb hK hP 2 0 rfl rfl (by decide) dX0_become_32 ?_
  refine va_copyi (ty := .int) hx hb (by rw [hml]; exact hl.1.symm) hown (htg _ q_941) (htg _ q_347) (htg _ q_346) (htg _ q_74) hK hP hD hS 10 2 0 0 rfl rfl rfl rfl rfl (by decide) (by decide) (by decide) (by decide) (by decide) (fun _ _ => rfl) (Nat.le_of_ble_eq_true rfl) (Nat.le_of_ble_eq_true rfl) dX0_become_33 (fun H locs hP hD hS => ?_)
  have hP : va_P D vwCl [(a0, .inr (0, [.ref a0_counts, .ref a0_roads, .ref a0_bridges, .ref a0_waggons, .ref a0_parts, .ref a0_settings, .ref a0_trip, .int 0])), (a0_counts, .inl (E 0, 4, .inl (va_cpy (fun _ => 0) (fun _ => 0) 0 0 4))), (a0_roads, .inl (E 0, 168, .inl (va_cpy (fun _ => 0) (fun _ => 0) 0 0 168))), (a0_bridges, .inl (E 0, 160, .inl (fun _ => 0))), (a0_waggons, .inl (E 0, 15, .inl (fun _ => 0))), (a0_parts, .inl (E 0, 10, .inl (fun _ => 0))), (a0_settings, .inl (E 0, 3, .inl (upd (upd (fun _ => 0) 0 100) 1 2))), (a0_trip, .inl (E 0, 7, .inl (fun _ => 0))), (b0, .inr (0, [.ref b0_counts, .ref b0_roads, .ref b0_bridges, .ref b0_waggons, .ref b0_parts, .ref b0_settings, .ref b0_trip, .int 0])), (b0_counts, .inl (E 0, 4, .inl (fun _ => 0))), (b0_roads, .inl (E 0, 168, .inl (fun _ => 0))), (b0_bridges, .inl (E 0, 160, .inl (fun _ => 0))), (b0_waggons, .inl (E 0, 15, .inl (fun _ => 0))), (b0_parts, .inl (E 0, 10, .inl (fun _ => 0))), (b0_settings, .inl (E 0, 3, .inl (upd (upd (fun _ => 0) 0 100) 1 2))), (b0_trip, .inl (E 0, 7, .inl (fun _ => 0)))] H := hP
  have hD : va_D A [(a0, .inr (0, [.ref a0_counts, .ref a0_roads, .ref a0_bridges, .ref a0_waggons, .ref a0_parts, .ref a0_settings, .ref a0_trip, .int 0])), (a0_counts, .inl (E 0, 4, .inl (va_cpy (fun _ => 0) (fun _ => 0) 0 0 4))), (a0_roads, .inl (E 0, 168, .inl (va_cpy (fun _ => 0) (fun _ => 0) 0 0 168))), (a0_bridges, .inl (E 0, 160, .inl (fun _ => 0))), (a0_waggons, .inl (E 0, 15, .inl (fun _ => 0))), (a0_parts, .inl (E 0, 10, .inl (fun _ => 0))), (a0_settings, .inl (E 0, 3, .inl (upd (upd (fun _ => 0) 0 100) 1 2))), (a0_trip, .inl (E 0, 7, .inl (fun _ => 0))), (b0, .inr (0, [.ref b0_counts, .ref b0_roads, .ref b0_bridges, .ref b0_waggons, .ref b0_parts, .ref b0_settings, .ref b0_trip, .int 0])), (b0_counts, .inl (E 0, 4, .inl (fun _ => 0))), (b0_roads, .inl (E 0, 168, .inl (fun _ => 0))), (b0_bridges, .inl (E 0, 160, .inl (fun _ => 0))), (b0_waggons, .inl (E 0, 15, .inl (fun _ => 0))), (b0_parts, .inl (E 0, 10, .inl (fun _ => 0))), (b0_settings, .inl (E 0, 3, .inl (upd (upd (fun _ => 0) 0 100) 1 2))), (b0_trip, .inl (E 0, 7, .inl (fun _ => 0)))] := hD
  refine lv_aload_n hx hb dX0_become_36 rfl (lv_at hl 1 rfl) ?_
  refine va_get (D := D) (ci := 0) (v := .ref b0_bridges) (C := RX0) (T := TX0) (N := 8) hx hb htg ig_0 hown hK hP 8 rfl rfl 2 (by decide) (htg _ q_103) (fun _ h9 => h9) rfl dX0_become_37 ?_
  refine lv_iconst (v := 0) hx hb dX0_become_40 (by decide) ?_
  refine lv_aload_n hx hb dX0_become_41 rfl (lv_at hl 0 rfl) ?_
  refine va_get (D := D) (ci := 0) (v := .ref a0_bridges) (C := RX0) (T := TX0) (N := 8) hx hb htg ig_0 hown hK hP 0 rfl rfl 2 (by decide) (htg _ q_103) (fun _ h9 => h9) rfl dX0_become_42 ?_
  refine lv_iconst (v := 0) hx hb dX0_become_45 (by decide) ?_
  refine lv_aload_n hx hb dX0_become_46 rfl (lv_at hl 0 rfl) ?_
  refine va_get (D := D) (ci := 0) (v := .ref a0_bridges) (C := RX0) (T := TX0) (N := 8) hx hb htg ig_0 hown hK hP 0 rfl rfl 2 (by decide) (htg _ q_103) (fun _ h9 => h9) rfl dX0_become_47 ?_
  refine va_alen (v := 160) hx hb hK hP 3 0 rfl rfl (by decide) dX0_become_50 ?_
  refine va_copyi (ty := .int) hx hb (by rw [hml]; exact hl.1.symm) hown (htg _ q_941) (htg _ q_347) (htg _ q_346) (htg _ q_74) hK hP hD hS 11 3 0 0 rfl rfl rfl rfl rfl (by decide) (by decide) (by decide) (by decide) (by decide) (fun _ _ => rfl) (Nat.le_of_ble_eq_true rfl) (Nat.le_of_ble_eq_true rfl) dX0_become_51 (fun H locs hP hD hS => ?_)
  have hP : va_P D vwCl [(a0, .inr (0, [.ref a0_counts, .ref a0_roads, .ref a0_bridges, .ref a0_waggons, .ref a0_parts, .ref a0_settings, .ref a0_trip, .int 0])), (a0_counts, .inl (E 0, 4, .inl (va_cpy (fun _ => 0) (fun _ => 0) 0 0 4))), (a0_roads, .inl (E 0, 168, .inl (va_cpy (fun _ => 0) (fun _ => 0) 0 0 168))), (a0_bridges, .inl (E 0, 160, .inl (va_cpy (fun _ => 0) (fun _ => 0) 0 0 160))), (a0_waggons, .inl (E 0, 15, .inl (fun _ => 0))), (a0_parts, .inl (E 0, 10, .inl (fun _ => 0))), (a0_settings, .inl (E 0, 3, .inl (upd (upd (fun _ => 0) 0 100) 1 2))), (a0_trip, .inl (E 0, 7, .inl (fun _ => 0))), (b0, .inr (0, [.ref b0_counts, .ref b0_roads, .ref b0_bridges, .ref b0_waggons, .ref b0_parts, .ref b0_settings, .ref b0_trip, .int 0])), (b0_counts, .inl (E 0, 4, .inl (fun _ => 0))), (b0_roads, .inl (E 0, 168, .inl (fun _ => 0))), (b0_bridges, .inl (E 0, 160, .inl (fun _ => 0))), (b0_waggons, .inl (E 0, 15, .inl (fun _ => 0))), (b0_parts, .inl (E 0, 10, .inl (fun _ => 0))), (b0_settings, .inl (E 0, 3, .inl (upd (upd (fun _ => 0) 0 100) 1 2))), (b0_trip, .inl (E 0, 7, .inl (fun _ => 0)))] H := hP
  have hD : va_D A [(a0, .inr (0, [.ref a0_counts, .ref a0_roads, .ref a0_bridges, .ref a0_waggons, .ref a0_parts, .ref a0_settings, .ref a0_trip, .int 0])), (a0_counts, .inl (E 0, 4, .inl (va_cpy (fun _ => 0) (fun _ => 0) 0 0 4))), (a0_roads, .inl (E 0, 168, .inl (va_cpy (fun _ => 0) (fun _ => 0) 0 0 168))), (a0_bridges, .inl (E 0, 160, .inl (va_cpy (fun _ => 0) (fun _ => 0) 0 0 160))), (a0_waggons, .inl (E 0, 15, .inl (fun _ => 0))), (a0_parts, .inl (E 0, 10, .inl (fun _ => 0))), (a0_settings, .inl (E 0, 3, .inl (upd (upd (fun _ => 0) 0 100) 1 2))), (a0_trip, .inl (E 0, 7, .inl (fun _ => 0))), (b0, .inr (0, [.ref b0_counts, .ref b0_roads, .ref b0_bridges, .ref b0_waggons, .ref b0_parts, .ref b0_settings, .ref b0_trip, .int 0])), (b0_counts, .inl (E 0, 4, .inl (fun _ => 0))), (b0_roads, .inl (E 0, 168, .inl (fun _ => 0))), (b0_bridges, .inl (E 0, 160, .inl (fun _ => 0))), (b0_waggons, .inl (E 0, 15, .inl (fun _ => 0))), (b0_parts, .inl (E 0, 10, .inl (fun _ => 0))), (b0_settings, .inl (E 0, 3, .inl (upd (upd (fun _ => 0) 0 100) 1 2))), (b0_trip, .inl (E 0, 7, .inl (fun _ => 0)))] := hD
  refine lv_aload_n hx hb dX0_become_54 rfl (lv_at hl 1 rfl) ?_
  refine va_get (D := D) (ci := 0) (v := .ref b0_waggons) (C := RX0) (T := TX0) (N := 8) hx hb htg ig_0 hown hK hP 8 rfl rfl 3 (by decide) (htg _ q_104) (fun _ h9 => h9) rfl dX0_become_55 ?_
  refine lv_iconst (v := 0) hx hb dX0_become_58 (by decide) ?_
  refine lv_aload_n hx hb dX0_become_59 rfl (lv_at hl 0 rfl) ?_
  refine va_get (D := D) (ci := 0) (v := .ref a0_waggons) (C := RX0) (T := TX0) (N := 8) hx hb htg ig_0 hown hK hP 0 rfl rfl 3 (by decide) (htg _ q_104) (fun _ h9 => h9) rfl dX0_become_60 ?_
  refine lv_iconst (v := 0) hx hb dX0_become_63 (by decide) ?_
  refine lv_aload_n hx hb dX0_become_64 rfl (lv_at hl 0 rfl) ?_
  refine va_get (D := D) (ci := 0) (v := .ref a0_waggons) (C := RX0) (T := TX0) (N := 8) hx hb htg ig_0 hown hK hP 0 rfl rfl 3 (by decide) (htg _ q_104) (fun _ h9 => h9) rfl dX0_become_65 ?_
  refine va_alen (v := 15) hx hb hK hP 4 0 rfl rfl (by decide) dX0_become_68 ?_
  refine va_copyi (ty := .int) hx hb (by rw [hml]; exact hl.1.symm) hown (htg _ q_941) (htg _ q_347) (htg _ q_346) (htg _ q_74) hK hP hD hS 12 4 0 0 rfl rfl rfl rfl rfl (by decide) (by decide) (by decide) (by decide) (by decide) (fun _ _ => rfl) (Nat.le_of_ble_eq_true rfl) (Nat.le_of_ble_eq_true rfl) dX0_become_69 (fun H locs hP hD hS => ?_)
  have hP : va_P D vwCl [(a0, .inr (0, [.ref a0_counts, .ref a0_roads, .ref a0_bridges, .ref a0_waggons, .ref a0_parts, .ref a0_settings, .ref a0_trip, .int 0])), (a0_counts, .inl (E 0, 4, .inl (va_cpy (fun _ => 0) (fun _ => 0) 0 0 4))), (a0_roads, .inl (E 0, 168, .inl (va_cpy (fun _ => 0) (fun _ => 0) 0 0 168))), (a0_bridges, .inl (E 0, 160, .inl (va_cpy (fun _ => 0) (fun _ => 0) 0 0 160))), (a0_waggons, .inl (E 0, 15, .inl (va_cpy (fun _ => 0) (fun _ => 0) 0 0 15))), (a0_parts, .inl (E 0, 10, .inl (fun _ => 0))), (a0_settings, .inl (E 0, 3, .inl (upd (upd (fun _ => 0) 0 100) 1 2))), (a0_trip, .inl (E 0, 7, .inl (fun _ => 0))), (b0, .inr (0, [.ref b0_counts, .ref b0_roads, .ref b0_bridges, .ref b0_waggons, .ref b0_parts, .ref b0_settings, .ref b0_trip, .int 0])), (b0_counts, .inl (E 0, 4, .inl (fun _ => 0))), (b0_roads, .inl (E 0, 168, .inl (fun _ => 0))), (b0_bridges, .inl (E 0, 160, .inl (fun _ => 0))), (b0_waggons, .inl (E 0, 15, .inl (fun _ => 0))), (b0_parts, .inl (E 0, 10, .inl (fun _ => 0))), (b0_settings, .inl (E 0, 3, .inl (upd (upd (fun _ => 0) 0 100) 1 2))), (b0_trip, .inl (E 0, 7, .inl (fun _ => 0)))] H := hP
  have hD : va_D A [(a0, .inr (0, [.ref a0_counts, .ref a0_roads, .ref a0_bridges, .ref a0_waggons, .ref a0_parts, .ref a0_settings, .ref a0_trip, .int 0])), (a0_counts, .inl (E 0, 4, .inl (va_cpy (fun _ => 0) (fun _ => 0) 0 0 4))), (a0_roads, .inl (E 0, 168, .inl (va_cpy (fun _ => 0) (fun _ => 0) 0 0 168))), (a0_bridges, .inl (E 0, 160, .inl (va_cpy (fun _ => 0) (fun _ => 0) 0 0 160))), (a0_waggons, .inl (E 0, 15, .inl (va_cpy (fun _ => 0) (fun _ => 0) 0 0 15))), (a0_parts, .inl (E 0, 10, .inl (fun _ => 0))), (a0_settings, .inl (E 0, 3, .inl (upd (upd (fun _ => 0) 0 100) 1 2))), (a0_trip, .inl (E 0, 7, .inl (fun _ => 0))), (b0, .inr (0, [.ref b0_counts, .ref b0_roads, .ref b0_bridges, .ref b0_waggons, .ref b0_parts, .ref b0_settings, .ref b0_trip, .int 0])), (b0_counts, .inl (E 0, 4, .inl (fun _ => 0))), (b0_roads, .inl (E 0, 168, .inl (fun _ => 0))), (b0_bridges, .inl (E 0, 160, .inl (fun _ => 0))), (b0_waggons, .inl (E 0, 15, .inl (fun _ => 0))), (b0_parts, .inl (E 0, 10, .inl (fun _ => 0))), (b0_settings, .inl (E 0, 3, .inl (upd (upd (fun _ => 0) 0 100) 1 2))), (b0_trip, .inl (E 0, 7, .inl (fun _ => 0)))] := hD
  refine lv_aload_n hx hb dX0_become_72 rfl (lv_at hl 1 rfl) ?_
  refine va_get (D := D) (ci := 0) (v := .ref b0_parts) (C := RX0) (T := TX0) (N := 8) hx hb htg ig_0 hown hK hP 8 rfl rfl 4 (by decide) (htg _ q_105) (fun _ h9 => h9) rfl dX0_become_73 ?_
  refine lv_iconst (v := 0) hx hb dX0_become_76 (by decide) ?_
  refine lv_aload_n hx hb dX0_become_77 rfl (lv_at hl 0 rfl) ?_
  refine va_get (D := D) (ci := 0) (v := .ref a0_parts) (C := RX0) (T := TX0) (N := 8) hx hb htg ig_0 hown hK hP 0 rfl rfl 4 (by decide) (htg _ q_105) (fun _ h9 => h9) rfl dX0_become_78 ?_
  refine lv_iconst (v := 0) hx hb dX0_become_81 (by decide) ?_
  refine lv_aload_n hx hb dX0_become_82 rfl (lv_at hl 0 rfl) ?_
  refine va_get (D := D) (ci := 0) (v := .ref a0_parts) (C := RX0) (T := TX0) (N := 8) hx hb htg ig_0 hown hK hP 0 rfl rfl 4 (by decide) (htg _ q_105) (fun _ h9 => h9) rfl dX0_become_83 ?_
  refine va_alen (v := 10) hx hb hK hP 5 0 rfl rfl (by decide) dX0_become_86 ?_
  refine va_copyi (ty := .int) hx hb (by rw [hml]; exact hl.1.symm) hown (htg _ q_941) (htg _ q_347) (htg _ q_346) (htg _ q_74) hK hP hD hS 13 5 0 0 rfl rfl rfl rfl rfl (by decide) (by decide) (by decide) (by decide) (by decide) (fun _ _ => rfl) (Nat.le_of_ble_eq_true rfl) (Nat.le_of_ble_eq_true rfl) dX0_become_87 (fun H locs hP hD hS => ?_)
  have hP : va_P D vwCl [(a0, .inr (0, [.ref a0_counts, .ref a0_roads, .ref a0_bridges, .ref a0_waggons, .ref a0_parts, .ref a0_settings, .ref a0_trip, .int 0])), (a0_counts, .inl (E 0, 4, .inl (va_cpy (fun _ => 0) (fun _ => 0) 0 0 4))), (a0_roads, .inl (E 0, 168, .inl (va_cpy (fun _ => 0) (fun _ => 0) 0 0 168))), (a0_bridges, .inl (E 0, 160, .inl (va_cpy (fun _ => 0) (fun _ => 0) 0 0 160))), (a0_waggons, .inl (E 0, 15, .inl (va_cpy (fun _ => 0) (fun _ => 0) 0 0 15))), (a0_parts, .inl (E 0, 10, .inl (va_cpy (fun _ => 0) (fun _ => 0) 0 0 10))), (a0_settings, .inl (E 0, 3, .inl (upd (upd (fun _ => 0) 0 100) 1 2))), (a0_trip, .inl (E 0, 7, .inl (fun _ => 0))), (b0, .inr (0, [.ref b0_counts, .ref b0_roads, .ref b0_bridges, .ref b0_waggons, .ref b0_parts, .ref b0_settings, .ref b0_trip, .int 0])), (b0_counts, .inl (E 0, 4, .inl (fun _ => 0))), (b0_roads, .inl (E 0, 168, .inl (fun _ => 0))), (b0_bridges, .inl (E 0, 160, .inl (fun _ => 0))), (b0_waggons, .inl (E 0, 15, .inl (fun _ => 0))), (b0_parts, .inl (E 0, 10, .inl (fun _ => 0))), (b0_settings, .inl (E 0, 3, .inl (upd (upd (fun _ => 0) 0 100) 1 2))), (b0_trip, .inl (E 0, 7, .inl (fun _ => 0)))] H := hP
  have hD : va_D A [(a0, .inr (0, [.ref a0_counts, .ref a0_roads, .ref a0_bridges, .ref a0_waggons, .ref a0_parts, .ref a0_settings, .ref a0_trip, .int 0])), (a0_counts, .inl (E 0, 4, .inl (va_cpy (fun _ => 0) (fun _ => 0) 0 0 4))), (a0_roads, .inl (E 0, 168, .inl (va_cpy (fun _ => 0) (fun _ => 0) 0 0 168))), (a0_bridges, .inl (E 0, 160, .inl (va_cpy (fun _ => 0) (fun _ => 0) 0 0 160))), (a0_waggons, .inl (E 0, 15, .inl (va_cpy (fun _ => 0) (fun _ => 0) 0 0 15))), (a0_parts, .inl (E 0, 10, .inl (va_cpy (fun _ => 0) (fun _ => 0) 0 0 10))), (a0_settings, .inl (E 0, 3, .inl (upd (upd (fun _ => 0) 0 100) 1 2))), (a0_trip, .inl (E 0, 7, .inl (fun _ => 0))), (b0, .inr (0, [.ref b0_counts, .ref b0_roads, .ref b0_bridges, .ref b0_waggons, .ref b0_parts, .ref b0_settings, .ref b0_trip, .int 0])), (b0_counts, .inl (E 0, 4, .inl (fun _ => 0))), (b0_roads, .inl (E 0, 168, .inl (fun _ => 0))), (b0_bridges, .inl (E 0, 160, .inl (fun _ => 0))), (b0_waggons, .inl (E 0, 15, .inl (fun _ => 0))), (b0_parts, .inl (E 0, 10, .inl (fun _ => 0))), (b0_settings, .inl (E 0, 3, .inl (upd (upd (fun _ => 0) 0 100) 1 2))), (b0_trip, .inl (E 0, 7, .inl (fun _ => 0)))] := hD
  refine lv_aload_n hx hb dX0_become_90 rfl (lv_at hl 1 rfl) ?_
  refine va_get (D := D) (ci := 0) (v := .ref b0_settings) (C := RX0) (T := TX0) (N := 8) hx hb htg ig_0 hown hK hP 8 rfl rfl 5 (by decide) (htg _ q_106) (fun _ h9 => h9) rfl dX0_become_91 ?_
  refine lv_iconst (v := 0) hx hb dX0_become_94 (by decide) ?_
  refine lv_aload_n hx hb dX0_become_95 rfl (lv_at hl 0 rfl) ?_
  refine va_get (D := D) (ci := 0) (v := .ref a0_settings) (C := RX0) (T := TX0) (N := 8) hx hb htg ig_0 hown hK hP 0 rfl rfl 5 (by decide) (htg _ q_106) (fun _ h9 => h9) rfl dX0_become_96 ?_
  refine lv_iconst (v := 0) hx hb dX0_become_99 (by decide) ?_
  refine lv_aload_n hx hb dX0_become_100 rfl (lv_at hl 0 rfl) ?_
  refine va_get (D := D) (ci := 0) (v := .ref a0_settings) (C := RX0) (T := TX0) (N := 8) hx hb htg ig_0 hown hK hP 0 rfl rfl 5 (by decide) (htg _ q_106) (fun _ h9 => h9) rfl dX0_become_101 ?_
  refine va_alen (v := 3) hx hb hK hP 6 0 rfl rfl (by decide) dX0_become_104 ?_
  refine va_copyi (ty := .int) hx hb (by rw [hml]; exact hl.1.symm) hown (htg _ q_941) (htg _ q_347) (htg _ q_346) (htg _ q_74) hK hP hD hS 14 6 0 0 rfl rfl rfl rfl rfl (by decide) (by decide) (by decide) (by decide) (by decide) (fun _ _ => rfl) (Nat.le_of_ble_eq_true rfl) (Nat.le_of_ble_eq_true rfl) dX0_become_105 (fun H locs hP hD hS => ?_)
  have hP : va_P D vwCl [(a0, .inr (0, [.ref a0_counts, .ref a0_roads, .ref a0_bridges, .ref a0_waggons, .ref a0_parts, .ref a0_settings, .ref a0_trip, .int 0])), (a0_counts, .inl (E 0, 4, .inl (va_cpy (fun _ => 0) (fun _ => 0) 0 0 4))), (a0_roads, .inl (E 0, 168, .inl (va_cpy (fun _ => 0) (fun _ => 0) 0 0 168))), (a0_bridges, .inl (E 0, 160, .inl (va_cpy (fun _ => 0) (fun _ => 0) 0 0 160))), (a0_waggons, .inl (E 0, 15, .inl (va_cpy (fun _ => 0) (fun _ => 0) 0 0 15))), (a0_parts, .inl (E 0, 10, .inl (va_cpy (fun _ => 0) (fun _ => 0) 0 0 10))), (a0_settings, .inl (E 0, 3, .inl (va_cpy (upd (upd (fun _ => 0) 0 100) 1 2) (upd (upd (fun _ => 0) 0 100) 1 2) 0 0 3))), (a0_trip, .inl (E 0, 7, .inl (fun _ => 0))), (b0, .inr (0, [.ref b0_counts, .ref b0_roads, .ref b0_bridges, .ref b0_waggons, .ref b0_parts, .ref b0_settings, .ref b0_trip, .int 0])), (b0_counts, .inl (E 0, 4, .inl (fun _ => 0))), (b0_roads, .inl (E 0, 168, .inl (fun _ => 0))), (b0_bridges, .inl (E 0, 160, .inl (fun _ => 0))), (b0_waggons, .inl (E 0, 15, .inl (fun _ => 0))), (b0_parts, .inl (E 0, 10, .inl (fun _ => 0))), (b0_settings, .inl (E 0, 3, .inl (upd (upd (fun _ => 0) 0 100) 1 2))), (b0_trip, .inl (E 0, 7, .inl (fun _ => 0)))] H := hP
  have hD : va_D A [(a0, .inr (0, [.ref a0_counts, .ref a0_roads, .ref a0_bridges, .ref a0_waggons, .ref a0_parts, .ref a0_settings, .ref a0_trip, .int 0])), (a0_counts, .inl (E 0, 4, .inl (va_cpy (fun _ => 0) (fun _ => 0) 0 0 4))), (a0_roads, .inl (E 0, 168, .inl (va_cpy (fun _ => 0) (fun _ => 0) 0 0 168))), (a0_bridges, .inl (E 0, 160, .inl (va_cpy (fun _ => 0) (fun _ => 0) 0 0 160))), (a0_waggons, .inl (E 0, 15, .inl (va_cpy (fun _ => 0) (fun _ => 0) 0 0 15))), (a0_parts, .inl (E 0, 10, .inl (va_cpy (fun _ => 0) (fun _ => 0) 0 0 10))), (a0_settings, .inl (E 0, 3, .inl (va_cpy (upd (upd (fun _ => 0) 0 100) 1 2) (upd (upd (fun _ => 0) 0 100) 1 2) 0 0 3))), (a0_trip, .inl (E 0, 7, .inl (fun _ => 0))), (b0, .inr (0, [.ref b0_counts, .ref b0_roads, .ref b0_bridges, .ref b0_waggons, .ref b0_parts, .ref b0_settings, .ref b0_trip, .int 0])), (b0_counts, .inl (E 0, 4, .inl (fun _ => 0))), (b0_roads, .inl (E 0, 168, .inl (fun _ => 0))), (b0_bridges, .inl (E 0, 160, .inl (fun _ => 0))), (b0_waggons, .inl (E 0, 15, .inl (fun _ => 0))), (b0_parts, .inl (E 0, 10, .inl (fun _ => 0))), (b0_settings, .inl (E 0, 3, .inl (upd (upd (fun _ => 0) 0 100) 1 2))), (b0_trip, .inl (E 0, 7, .inl (fun _ => 0)))] := hD
  refine lv_aload_n hx hb dX0_become_108 rfl (lv_at hl 1 rfl) ?_
  refine va_get (D := D) (ci := 0) (v := .ref b0_trip) (C := RX0) (T := TX0) (N := 8) hx hb htg ig_0 hown hK hP 8 rfl rfl 6 (by decide) (htg _ q_111) (fun _ h9 => h9) rfl dX0_become_109 ?_
  refine lv_iconst (v := 0) hx hb dX0_become_112 (by decide) ?_
  refine lv_aload_n hx hb dX0_become_113 rfl (lv_at hl 0 rfl) ?_
  refine va_get (D := D) (ci := 0) (v := .ref a0_trip) (C := RX0) (T := TX0) (N := 8) hx hb htg ig_0 hown hK hP 0 rfl rfl 6 (by decide) (htg _ q_111) (fun _ h9 => h9) rfl dX0_become_114 ?_
  refine lv_iconst (v := 0) hx hb dX0_become_117 (by decide) ?_
  refine lv_aload_n hx hb dX0_become_118 rfl (lv_at hl 0 rfl) ?_
  refine va_get (D := D) (ci := 0) (v := .ref a0_trip) (C := RX0) (T := TX0) (N := 8) hx hb htg ig_0 hown hK hP 0 rfl rfl 6 (by decide) (htg _ q_111) (fun _ h9 => h9) rfl dX0_become_119 ?_
  refine va_alen (v := 7) hx hb hK hP 7 0 rfl rfl (by decide) dX0_become_122 ?_
  refine va_copyi (ty := .int) hx hb (by rw [hml]; exact hl.1.symm) hown (htg _ q_941) (htg _ q_347) (htg _ q_346) (htg _ q_74) hK hP hD hS 15 7 0 0 rfl rfl rfl rfl rfl (by decide) (by decide) (by decide) (by decide) (by decide) (fun _ _ => rfl) (Nat.le_of_ble_eq_true rfl) (Nat.le_of_ble_eq_true rfl) dX0_become_123 (fun H locs hP hD hS => ?_)
  have hP : va_P D vwCl [(a0, .inr (0, [.ref a0_counts, .ref a0_roads, .ref a0_bridges, .ref a0_waggons, .ref a0_parts, .ref a0_settings, .ref a0_trip, .int 0])), (a0_counts, .inl (E 0, 4, .inl (va_cpy (fun _ => 0) (fun _ => 0) 0 0 4))), (a0_roads, .inl (E 0, 168, .inl (va_cpy (fun _ => 0) (fun _ => 0) 0 0 168))), (a0_bridges, .inl (E 0, 160, .inl (va_cpy (fun _ => 0) (fun _ => 0) 0 0 160))), (a0_waggons, .inl (E 0, 15, .inl (va_cpy (fun _ => 0) (fun _ => 0) 0 0 15))), (a0_parts, .inl (E 0, 10, .inl (va_cpy (fun _ => 0) (fun _ => 0) 0 0 10))), (a0_settings, .inl (E 0, 3, .inl (va_cpy (upd (upd (fun _ => 0) 0 100) 1 2) (upd (upd (fun _ => 0) 0 100) 1 2) 0 0 3))), (a0_trip, .inl (E 0, 7, .inl (va_cpy (fun _ => 0) (fun _ => 0) 0 0 7))), (b0, .inr (0, [.ref b0_counts, .ref b0_roads, .ref b0_bridges, .ref b0_waggons, .ref b0_parts, .ref b0_settings, .ref b0_trip, .int 0])), (b0_counts, .inl (E 0, 4, .inl (fun _ => 0))), (b0_roads, .inl (E 0, 168, .inl (fun _ => 0))), (b0_bridges, .inl (E 0, 160, .inl (fun _ => 0))), (b0_waggons, .inl (E 0, 15, .inl (fun _ => 0))), (b0_parts, .inl (E 0, 10, .inl (fun _ => 0))), (b0_settings, .inl (E 0, 3, .inl (upd (upd (fun _ => 0) 0 100) 1 2))), (b0_trip, .inl (E 0, 7, .inl (fun _ => 0)))] H := hP
  have hD : va_D A [(a0, .inr (0, [.ref a0_counts, .ref a0_roads, .ref a0_bridges, .ref a0_waggons, .ref a0_parts, .ref a0_settings, .ref a0_trip, .int 0])), (a0_counts, .inl (E 0, 4, .inl (va_cpy (fun _ => 0) (fun _ => 0) 0 0 4))), (a0_roads, .inl (E 0, 168, .inl (va_cpy (fun _ => 0) (fun _ => 0) 0 0 168))), (a0_bridges, .inl (E 0, 160, .inl (va_cpy (fun _ => 0) (fun _ => 0) 0 0 160))), (a0_waggons, .inl (E 0, 15, .inl (va_cpy (fun _ => 0) (fun _ => 0) 0 0 15))), (a0_parts, .inl (E 0, 10, .inl (va_cpy (fun _ => 0) (fun _ => 0) 0 0 10))), (a0_settings, .inl (E 0, 3, .inl (va_cpy (upd (upd (fun _ => 0) 0 100) 1 2) (upd (upd (fun _ => 0) 0 100) 1 2) 0 0 3))), (a0_trip, .inl (E 0, 7, .inl (va_cpy (fun _ => 0) (fun _ => 0) 0 0 7))), (b0, .inr (0, [.ref b0_counts, .ref b0_roads, .ref b0_bridges, .ref b0_waggons, .ref b0_parts, .ref b0_settings, .ref b0_trip, .int 0])), (b0_counts, .inl (E 0, 4, .inl (fun _ => 0))), (b0_roads, .inl (E 0, 168, .inl (fun _ => 0))), (b0_bridges, .inl (E 0, 160, .inl (fun _ => 0))), (b0_waggons, .inl (E 0, 15, .inl (fun _ => 0))), (b0_parts, .inl (E 0, 10, .inl (fun _ => 0))), (b0_settings, .inl (E 0, 3, .inl (upd (upd (fun _ => 0) 0 100) 1 2))), (b0_trip, .inl (E 0, 7, .inl (fun _ => 0)))] := hD
  refine lv_aload_n hx hb dX0_become_126 rfl (lv_at hl 0 rfl) ?_
  refine lv_aload_n hx hb dX0_become_127 rfl (lv_at hl 1 rfl) ?_
  refine va_get (D := D) (ci := 0) (v := .int 0) (C := RX0) (T := TX0) (N := 8) hx hb htg ig_0 hown hK hP 8 rfl rfl 7 (by decide) (htg _ q_113) (fun _ h9 => h9) rfl dX0_become_128 ?_
  refine va_put (D := D) (ci := 0) (v := .int 0) (ty := .boolean) (C := RX0) (T := TX0) (N := 8) hx hb htg ig_0 tyX0 tyX0_ok nmX0 hown hK hP hD hS 0 rfl rfl 7 (by decide) (htg _ q_113) (fun _ h9 => h9) rfl (by decide +kernel) (by decide) (by decide) (Nat.le_of_ble_eq_true rfl) dX0_become_131 (fun H locs hP hD hS => ?_)
  have hP : va_P D vwCl [(a0, .inr (0, [.ref a0_counts, .ref a0_roads, .ref a0_bridges, .ref a0_waggons, .ref a0_parts, .ref a0_settings, .ref a0_trip, .int 0])), (a0_counts, .inl (E 0, 4, .inl (va_cpy (fun _ => 0) (fun _ => 0) 0 0 4))), (a0_roads, .inl (E 0, 168, .inl (va_cpy (fun _ => 0) (fun _ => 0) 0 0 168))), (a0_bridges, .inl (E 0, 160, .inl (va_cpy (fun _ => 0) (fun _ => 0) 0 0 160))), (a0_waggons, .inl (E 0, 15, .inl (va_cpy (fun _ => 0) (fun _ => 0) 0 0 15))), (a0_parts, .inl (E 0, 10, .inl (va_cpy (fun _ => 0) (fun _ => 0) 0 0 10))), (a0_settings, .inl (E 0, 3, .inl (va_cpy (upd (upd (fun _ => 0) 0 100) 1 2) (upd (upd (fun _ => 0) 0 100) 1 2) 0 0 3))), (a0_trip, .inl (E 0, 7, .inl (va_cpy (fun _ => 0) (fun _ => 0) 0 0 7))), (b0, .inr (0, [.ref b0_counts, .ref b0_roads, .ref b0_bridges, .ref b0_waggons, .ref b0_parts, .ref b0_settings, .ref b0_trip, .int 0])), (b0_counts, .inl (E 0, 4, .inl (fun _ => 0))), (b0_roads, .inl (E 0, 168, .inl (fun _ => 0))), (b0_bridges, .inl (E 0, 160, .inl (fun _ => 0))), (b0_waggons, .inl (E 0, 15, .inl (fun _ => 0))), (b0_parts, .inl (E 0, 10, .inl (fun _ => 0))), (b0_settings, .inl (E 0, 3, .inl (upd (upd (fun _ => 0) 0 100) 1 2))), (b0_trip, .inl (E 0, 7, .inl (fun _ => 0)))] H := hP
  have hD : va_D A [(a0, .inr (0, [.ref a0_counts, .ref a0_roads, .ref a0_bridges, .ref a0_waggons, .ref a0_parts, .ref a0_settings, .ref a0_trip, .int 0])), (a0_counts, .inl (E 0, 4, .inl (va_cpy (fun _ => 0) (fun _ => 0) 0 0 4))), (a0_roads, .inl (E 0, 168, .inl (va_cpy (fun _ => 0) (fun _ => 0) 0 0 168))), (a0_bridges, .inl (E 0, 160, .inl (va_cpy (fun _ => 0) (fun _ => 0) 0 0 160))), (a0_waggons, .inl (E 0, 15, .inl (va_cpy (fun _ => 0) (fun _ => 0) 0 0 15))), (a0_parts, .inl (E 0, 10, .inl (va_cpy (fun _ => 0) (fun _ => 0) 0 0 10))), (a0_settings, .inl (E 0, 3, .inl (va_cpy (upd (upd (fun _ => 0) 0 100) 1 2) (upd (upd (fun _ => 0) 0 100) 1 2) 0 0 3))), (a0_trip, .inl (E 0, 7, .inl (va_cpy (fun _ => 0) (fun _ => 0) 0 0 7))), (b0, .inr (0, [.ref b0_counts, .ref b0_roads, .ref b0_bridges, .ref b0_waggons, .ref b0_parts, .ref b0_settings, .ref b0_trip, .int 0])), (b0_counts, .inl (E 0, 4, .inl (fun _ => 0))), (b0_roads, .inl (E 0, 168, .inl (fun _ => 0))), (b0_bridges, .inl (E 0, 160, .inl (fun _ => 0))), (b0_waggons, .inl (E 0, 15, .inl (fun _ => 0))), (b0_parts, .inl (E 0, 10, .inl (fun _ => 0))), (b0_settings, .inl (E 0, 3, .inl (upd (upd (fun _ => 0) 0 100) 1 2))), (b0_trip, .inl (E 0, 7, .inl (fun _ => 0)))] := hD
  refine W.widen (k := 0) (n := 0) (Nat.le_of_ble_eq_true rfl) (Nat.le_of_ble_eq_true rfl) ?_
  exact W.vret hx hb hr (fun t ht hW => ⟨⟨(), rfl, trivial, ⟨by rw [ht]; exact hP.sub [] rfl, hD.sub [] (by decide) rfl⟩⟩, hS.F ht⟩) hS.2.2 dX0_become_134
set_option maxHeartbeats 4000000 in
set_option maxRecDepth 100000 in
theorem c_X6_image (l : Launch) (D : va_G) (E : Nat → ClassId) (G : Nat → Nat) (sz : Nat) (a0 : Nat) (a0_now : Nat) (a0_kept : Nat) (a0_ways : Nat) (a0_shelves : Nat) (a0_tape : Nat) (a0_reader : Nat) (a0_refusals : Nat) (a0_bestPack : Nat) (a0_kept_counts : Nat) (a0_kept_roads : Nat) (a0_kept_bridges : Nat) (a0_kept_waggons : Nat) (a0_kept_parts : Nat) (a0_kept_settings : Nat) (a0_kept_trip : Nat) (a0_now_counts : Nat) (a0_now_roads : Nat) (a0_now_bridges : Nat) (a0_now_waggons : Nat) (a0_now_parts : Nat) (a0_now_settings : Nat) (a0_now_trip : Nat) : Met l yX6_image (oh_w yX6_image cX6_image 1 (some .int)) ({ frames := 2, cells := 0, slots := 0, locals := 39 }) (oh_Pm D E G [.ref a0] [(a0, .inr (6, [.ref a0_now, .ref a0_kept, .int 0, .ref a0_ways, .ref a0_shelves, .ref a0_tape, .ref a0_reader, .ref a0_refusals, .ref a0_bestPack])), (a0_kept, .inr (0, [.ref a0_kept_counts, .ref a0_kept_roads, .ref a0_kept_bridges, .ref a0_kept_waggons, .ref a0_kept_parts, .ref a0_kept_settings, .ref a0_kept_trip, .int 0])), (a0_kept_counts, .inl (E 0, 4, .inl (fun _ => 0))), (a0_kept_roads, .inl (E 0, 168, .inl (fun _ => 0))), (a0_kept_bridges, .inl (E 0, 160, .inl (fun _ => 0))), (a0_kept_waggons, .inl (E 0, 15, .inl (fun _ => 0))), (a0_kept_parts, .inl (E 0, 10, .inl (fun _ => 0))), (a0_kept_settings, .inl (E 0, 3, .inl (upd (upd (fun _ => 0) 0 100) 1 2))), (a0_kept_trip, .inl (E 0, 7, .inl (fun _ => 0))), (a0_now, .inr (0, [.ref a0_now_counts, .ref a0_now_roads, .ref a0_now_bridges, .ref a0_now_waggons, .ref a0_now_parts, .ref a0_now_settings, .ref a0_now_trip, .int 0])), (a0_now_counts, .inl (E 0, 4, .inl (fun _ => 0))), (a0_now_roads, .inl (E 0, 168, .inl (fun _ => 0))), (a0_now_bridges, .inl (E 0, 160, .inl (fun _ => 0))), (a0_now_waggons, .inl (E 0, 15, .inl (fun _ => 0))), (a0_now_parts, .inl (E 0, 10, .inl (fun _ => 0))), (a0_now_settings, .inl (E 0, 3, .inl (upd (upd (fun _ => 0) 0 100) 1 2))), (a0_now_trip, .inl (E 0, 7, .inl (fun _ => 0)))] sz) (va_Qi (fun r (_ : Unit) => r = 1) (oh_B D (va_A [(a0, .inr (6, [.ref a0_now, .ref a0_kept, .int 0, .ref a0_ways, .ref a0_shelves, .ref a0_tape, .ref a0_reader, .ref a0_refusals, .ref a0_bestPack])), (a0_kept, .inr (0, [.ref a0_kept_counts, .ref a0_kept_roads, .ref a0_kept_bridges, .ref a0_kept_waggons, .ref a0_kept_parts, .ref a0_kept_settings, .ref a0_kept_trip, .int 0])), (a0_kept_counts, .inl (E 0, 4, .inl (fun _ => 0))), (a0_kept_roads, .inl (E 0, 168, .inl (fun _ => 0))), (a0_kept_bridges, .inl (E 0, 160, .inl (fun _ => 0))), (a0_kept_waggons, .inl (E 0, 15, .inl (fun _ => 0))), (a0_kept_parts, .inl (E 0, 10, .inl (fun _ => 0))), (a0_kept_settings, .inl (E 0, 3, .inl (upd (upd (fun _ => 0) 0 100) 1 2))), (a0_kept_trip, .inl (E 0, 7, .inl (fun _ => 0))), (a0_now, .inr (0, [.ref a0_now_counts, .ref a0_now_roads, .ref a0_now_bridges, .ref a0_now_waggons, .ref a0_now_parts, .ref a0_now_settings, .ref a0_now_trip, .int 0])), (a0_now_counts, .inl (E 0, 4, .inl (fun _ => 0))), (a0_now_roads, .inl (E 0, 168, .inl (fun _ => 0))), (a0_now_bridges, .inl (E 0, 160, .inl (fun _ => 0))), (a0_now_waggons, .inl (E 0, 15, .inl (fun _ => 0))), (a0_now_parts, .inl (E 0, 10, .inl (fun _ => 0))), (a0_now_settings, .inl (E 0, 3, .inl (upd (upd (fun _ => 0) 0 100) 1 2))), (a0_now_trip, .inl (E 0, 7, .inl (fun _ => 0)))] sz) (fun _ => [])) (va_A [(a0, .inr (6, [.ref a0_now, .ref a0_kept, .int 0, .ref a0_ways, .ref a0_shelves, .ref a0_tape, .ref a0_reader, .ref a0_refusals, .ref a0_bestPack])), (a0_kept, .inr (0, [.ref a0_kept_counts, .ref a0_kept_roads, .ref a0_kept_bridges, .ref a0_kept_waggons, .ref a0_kept_parts, .ref a0_kept_settings, .ref a0_kept_trip, .int 0])), (a0_kept_counts, .inl (E 0, 4, .inl (fun _ => 0))), (a0_kept_roads, .inl (E 0, 168, .inl (fun _ => 0))), (a0_kept_bridges, .inl (E 0, 160, .inl (fun _ => 0))), (a0_kept_waggons, .inl (E 0, 15, .inl (fun _ => 0))), (a0_kept_parts, .inl (E 0, 10, .inl (fun _ => 0))), (a0_kept_settings, .inl (E 0, 3, .inl (upd (upd (fun _ => 0) 0 100) 1 2))), (a0_kept_trip, .inl (E 0, 7, .inl (fun _ => 0))), (a0_now, .inr (0, [.ref a0_now_counts, .ref a0_now_roads, .ref a0_now_bridges, .ref a0_now_waggons, .ref a0_now_parts, .ref a0_now_settings, .ref a0_now_trip, .int 0])), (a0_now_counts, .inl (E 0, 4, .inl (fun _ => 0))), (a0_now_roads, .inl (E 0, 168, .inl (fun _ => 0))), (a0_now_bridges, .inl (E 0, 160, .inl (fun _ => 0))), (a0_now_waggons, .inl (E 0, 15, .inl (fun _ => 0))), (a0_now_parts, .inl (E 0, 10, .inl (fun _ => 0))), (a0_now_settings, .inl (E 0, 3, .inl (upd (upd (fun _ => 0) 0 100) 1 2))), (a0_now_trip, .inl (E 0, 7, .inl (fun _ => 0)))] sz)) 0 0 (va_A [(a0, .inr (6, [.ref a0_now, .ref a0_kept, .int 0, .ref a0_ways, .ref a0_shelves, .ref a0_tape, .ref a0_reader, .ref a0_refusals, .ref a0_bestPack])), (a0_kept, .inr (0, [.ref a0_kept_counts, .ref a0_kept_roads, .ref a0_kept_bridges, .ref a0_kept_waggons, .ref a0_kept_parts, .ref a0_kept_settings, .ref a0_kept_trip, .int 0])), (a0_kept_counts, .inl (E 0, 4, .inl (fun _ => 0))), (a0_kept_roads, .inl (E 0, 168, .inl (fun _ => 0))), (a0_kept_bridges, .inl (E 0, 160, .inl (fun _ => 0))), (a0_kept_waggons, .inl (E 0, 15, .inl (fun _ => 0))), (a0_kept_parts, .inl (E 0, 10, .inl (fun _ => 0))), (a0_kept_settings, .inl (E 0, 3, .inl (upd (upd (fun _ => 0) 0 100) 1 2))), (a0_kept_trip, .inl (E 0, 7, .inl (fun _ => 0))), (a0_now, .inr (0, [.ref a0_now_counts, .ref a0_now_roads, .ref a0_now_bridges, .ref a0_now_waggons, .ref a0_now_parts, .ref a0_now_settings, .ref a0_now_trip, .int 0])), (a0_now_counts, .inl (E 0, 4, .inl (fun _ => 0))), (a0_now_roads, .inl (E 0, 168, .inl (fun _ => 0))), (a0_now_bridges, .inl (E 0, 160, .inl (fun _ => 0))), (a0_now_waggons, .inl (E 0, 15, .inl (fun _ => 0))), (a0_now_parts, .inl (E 0, 10, .inl (fun _ => 0))), (a0_now_settings, .inl (E 0, 3, .inl (upd (upd (fun _ => 0) 0 100) 1 2))), (a0_now_trip, .inl (E 0, 7, .inl (fun _ => 0)))] sz) := by
  refine Met.ofW (cc := cX6_image) (maxL := 1) (ret := (some .int)) (by decide) rfl ?_
  intro p e s m args below meth c s₁ B hml hv
  obtain ⟨rfl, hsz, hP, hK, hD0, hG⟩ := hv
  have hx := B.exec
  have hb := B.bytes
  have hr := B.returns
  have hts := atoms_spec (ws := (oh_w yX6_image cX6_image 1 (some .int))) B.pre
  have htg : ∀ w ∈ oh_t, w.before _ s = true := fun w h => hts w (List.mem_cons_of_mem _ h)
  have hown : s.vm.findClass RX6 = some m.cls := findClass_of_methodNamed B.named
  have hlocks := B.notSynchronized
  subst hsz
  have hD := hD0.self (sz := s.heap.size)
  generalize hAe : va_A [(a0, .inr (6, [.ref a0_now, .ref a0_kept, .int 0, .ref a0_ways, .ref a0_shelves, .ref a0_tape, .ref a0_reader, .ref a0_refusals, .ref a0_bestPack])), (a0_kept, .inr (0, [.ref a0_kept_counts, .ref a0_kept_roads, .ref a0_kept_bridges, .ref a0_kept_waggons, .ref a0_kept_parts, .ref a0_kept_settings, .ref a0_kept_trip, .int 0])), (a0_kept_counts, .inl (E 0, 4, .inl (fun _ => 0))), (a0_kept_roads, .inl (E 0, 168, .inl (fun _ => 0))), (a0_kept_bridges, .inl (E 0, 160, .inl (fun _ => 0))), (a0_kept_waggons, .inl (E 0, 15, .inl (fun _ => 0))), (a0_kept_parts, .inl (E 0, 10, .inl (fun _ => 0))), (a0_kept_settings, .inl (E 0, 3, .inl (upd (upd (fun _ => 0) 0 100) 1 2))), (a0_kept_trip, .inl (E 0, 7, .inl (fun _ => 0))), (a0_now, .inr (0, [.ref a0_now_counts, .ref a0_now_roads, .ref a0_now_bridges, .ref a0_now_waggons, .ref a0_now_parts, .ref a0_now_settings, .ref a0_now_trip, .int 0])), (a0_now_counts, .inl (E 0, 4, .inl (fun _ => 0))), (a0_now_roads, .inl (E 0, 168, .inl (fun _ => 0))), (a0_now_bridges, .inl (E 0, 160, .inl (fun _ => 0))), (a0_now_waggons, .inl (E 0, 15, .inl (fun _ => 0))), (a0_now_parts, .inl (E 0, 10, .inl (fun _ => 0))), (a0_now_settings, .inl (E 0, 3, .inl (upd (upd (fun _ => 0) 0 100) 1 2))), (a0_now_trip, .inl (E 0, 7, .inl (fun _ => 0)))] s.heap.size = A at hD hG ⊢
  have hA : ∀ q : Nat, s.heap.size ≤ q → A q := fun q h => by rw [← hAe]; exact Or.inr h
  have hS : va_S A s.heap s.heap [] := va_S.rf
  have hP : va_P D vwCl [(a0, .inr (6, [.ref a0_now, .ref a0_kept, .int 0, .ref a0_ways, .ref a0_shelves, .ref a0_tape, .ref a0_reader, .ref a0_refusals, .ref a0_bestPack])), (a0_kept, .inr (0, [.ref a0_kept_counts, .ref a0_kept_roads, .ref a0_kept_bridges, .ref a0_kept_waggons, .ref a0_kept_parts, .ref a0_kept_settings, .ref a0_kept_trip, .int 0])), (a0_kept_counts, .inl (E 0, 4, .inl (fun _ => 0))), (a0_kept_roads, .inl (E 0, 168, .inl (fun _ => 0))), (a0_kept_bridges, .inl (E 0, 160, .inl (fun _ => 0))), (a0_kept_waggons, .inl (E 0, 15, .inl (fun _ => 0))), (a0_kept_parts, .inl (E 0, 10, .inl (fun _ => 0))), (a0_kept_settings, .inl (E 0, 3, .inl (upd (upd (fun _ => 0) 0 100) 1 2))), (a0_kept_trip, .inl (E 0, 7, .inl (fun _ => 0))), (a0_now, .inr (0, [.ref a0_now_counts, .ref a0_now_roads, .ref a0_now_bridges, .ref a0_now_waggons, .ref a0_now_parts, .ref a0_now_settings, .ref a0_now_trip, .int 0])), (a0_now_counts, .inl (E 0, 4, .inl (fun _ => 0))), (a0_now_roads, .inl (E 0, 168, .inl (fun _ => 0))), (a0_now_bridges, .inl (E 0, 160, .inl (fun _ => 0))), (a0_now_waggons, .inl (E 0, 15, .inl (fun _ => 0))), (a0_now_parts, .inl (E 0, 10, .inl (fun _ => 0))), (a0_now_settings, .inl (E 0, 3, .inl (upd (upd (fun _ => 0) 0 100) 1 2))), (a0_now_trip, .inl (E 0, 7, .inl (fun _ => 0)))] s.heap := hP
  have hl := lv_entry ([.ref a0]) (n := 1) (Nat.le_of_ble_eq_true rfl)
  rw [lg_entry_eq]
  generalize (lg_sl ([.ref a0]) ++ List.replicate (1 - (lg_sl ([.ref a0])).length) Slot.unset).toArray = ls at hl ⊢
  have hl : lv_has ls 1 [(0, .ref a0)] := hl
  refine lv_aload_n hx hb dX6_image_0 rfl (lv_at hl 0 rfl) ?_
  refine va_get (D := D) (ci := 6) (v := .ref a0_kept) (C := RX6) (T := TX6) (N := 9) hx hb htg ig_6 hown hK hP 0 rfl rfl 1 (by decide) (htg _ q_259) (fun _ h9 => h9) rfl dX6_image_1 ?_
  refine lv_aload_n hx hb dX6_image_4 rfl (lv_at hl 0 rfl) ?_
  refine va_get (D := D) (ci := 6) (v := .ref a0_now) (C := RX6) (T := TX6) (N := 9) hx hb htg ig_6 hown hK hP 0 rfl rfl 0 (by decide) (htg _ q_258) (fun _ h9 => h9) rfl dX6_image_5 ?_
  refine oh_mVv (As := [.ref a0_now]) (rest := []) (wr := [(a0, .inr (6, [.ref a0_now, .ref a0_kept, .int 0, .ref a0_ways, .ref a0_shelves, .ref a0_tape, .ref a0_reader, .ref a0_refusals, .ref a0_bestPack]))]) ⟨hx, hb, hml, hown, htg⟩ (c_X0_become l D E G s.heap.size a0_kept a0_now a0_kept_counts a0_kept_roads a0_kept_bridges a0_kept_waggons a0_kept_parts a0_kept_settings a0_kept_trip a0_now_counts a0_now_roads a0_now_bridges a0_now_waggons a0_now_parts a0_now_settings a0_now_trip) (cwV 1 htg (oh_gV q_937 q_938 q_939 q_67 q_940) rfl rfl rfl pdVX0_become ⟨Nat.le_of_ble_eq_true rfl, Nat.le_of_ble_eq_true rfl⟩) hK hP hD hG hS hA [1, 2, 3, 4, 5, 6, 7, 8, 9, 10, 11, 12, 13, 14, 15, 16] [0] rfl rfl (by decide) (by decide) (by decide) (va_recv hK hP (ci := 0) (q0 := 1) rfl rfl) rfl hl.1 rfl (Nat.le_of_ble_eq_true rfl) dX6_image_8 ⟨Nat.le_of_ble_eq_true rfl, Nat.le_of_ble_eq_true rfl⟩ (fun u H locs hw hP hD hS => ?_)
  have hP : va_P D vwCl [(a0, .inr (6, [.ref a0_now, .ref a0_kept, .int 0, .ref a0_ways, .ref a0_shelves, .ref a0_tape, .ref a0_reader, .ref a0_refusals, .ref a0_bestPack]))] H := hP
  have hD : va_D A [(a0, .inr (6, [.ref a0_now, .ref a0_kept, .int 0, .ref a0_ways, .ref a0_shelves, .ref a0_tape, .ref a0_reader, .ref a0_refusals, .ref a0_bestPack]))] := hD
  refine W.widen (k := 0) (n := 0) (Nat.le_refl _) (Nat.le_refl _) ?_
  refine lv_aload_n hx hb dX6_image_11 rfl (lv_at hl 0 rfl) ?_
  refine lv_iconst (v := 1) hx hb dX6_image_12 (by decide) ?_
  refine va_put (D := D) (ci := 6) (v := .int 1) (ty := .boolean) (C := RX6) (T := TX6) (N := 9) hx hb htg ig_6 tyX6 tyX6_ok nmX6 hown hK hP hD hS 0 rfl rfl 2 (by decide) (htg _ q_260) (fun _ h9 => h9) rfl (by decide +kernel) (by decide) (by decide) (Nat.le_of_ble_eq_true rfl) dX6_image_13 (fun H locs hP hD hS => ?_)
  have hP : va_P D vwCl [(a0, .inr (6, [.ref a0_now, .ref a0_kept, .int 1, .ref a0_ways, .ref a0_shelves, .ref a0_tape, .ref a0_reader, .ref a0_refusals, .ref a0_bestPack]))] H := hP
  have hD : va_D A [(a0, .inr (6, [.ref a0_now, .ref a0_kept, .int 1, .ref a0_ways, .ref a0_shelves, .ref a0_tape, .ref a0_reader, .ref a0_refusals, .ref a0_bestPack]))] := hD
  refine lv_iconst (v := 1) hx hb dX6_image_16 (by decide) ?_
  refine W.widen (k := 0) (n := 0) (Nat.le_of_ble_eq_true rfl) (Nat.le_of_ble_eq_true rfl) ?_
  exact W.iret (v := 1) hx hb hr (fun t ht hW => ⟨⟨1, (), rfl, rfl, ⟨by rw [ht]; exact hP.sub [] rfl, hD.sub [] (by decide) rfl⟩⟩, hS.F ht⟩) hS.2.2 dX6_image_17
set_option maxHeartbeats 4000000 in
set_option maxRecDepth 100000 in
theorem c_X4_append (l : Launch) (D : va_G) (E : Nat → ClassId) (G : Nat → Nat) (sz : Nat) (a0 : Nat) (v_v : Int32) (v_n : Int32) (a0_bytes : Nat) (hn : v_n = 1 ∨ v_n = 2 ∨ v_n = 3 ∨ v_n = 4) : Met l yX4_append (oh_w yX4_append cX4_append 4 none) ({ frames := 0, cells := 0, slots := 0, locals := 0 }) (oh_Pm D E G [.ref a0, .int v_v, .int v_n] [(a0, .inr (4, [.ref a0_bytes, .int 0, .int (-1), .int 0, .int 0, .int 0])), (a0_bytes, .inl (E 0, 250, .inl (fun _ => 0)))] sz) (va_Qv (fun (_ : (Nat → Int32)) => True) (oh_B D (va_A [(a0, .inr (4, [.ref a0_bytes, .int 0, .int (-1), .int 0, .int 0, .int 0])), (a0_bytes, .inl (E 0, 250, .inl (fun _ => 0)))] sz) (fun hv_a0_bytes => [(a0, .inr (4, [.ref a0_bytes, .int v_n, .int (-1), .int 0, .int 0, .int 0])), (a0_bytes, .inl (E 0, 250, .inl hv_a0_bytes))])) (va_A [(a0, .inr (4, [.ref a0_bytes, .int 0, .int (-1), .int 0, .int 0, .int 0])), (a0_bytes, .inl (E 0, 250, .inl (fun _ => 0)))] sz)) 0 0 (va_A [(a0, .inr (4, [.ref a0_bytes, .int 0, .int (-1), .int 0, .int 0, .int 0])), (a0_bytes, .inl (E 0, 250, .inl (fun _ => 0)))] sz) := by
  refine Met.ofW (cc := cX4_append) (maxL := 4) (ret := none) (by decide) rfl ?_
  intro p e s m args below meth c s₁ B hml hv
  obtain ⟨rfl, hsz, hP, hK, hD0, hG⟩ := hv
  have hx := B.exec
  have hb := B.bytes
  have hr := B.returns
  have hts := atoms_spec (ws := (oh_w yX4_append cX4_append 4 none)) B.pre
  have htg : ∀ w ∈ oh_t, w.before _ s = true := fun w h => hts w (List.mem_cons_of_mem _ h)
  have hown : s.vm.findClass RX4 = some m.cls := findClass_of_methodNamed B.named
  have hlocks := B.notSynchronized
  subst hsz
  have hD := hD0.self (sz := s.heap.size)
  generalize hAe : va_A [(a0, .inr (4, [.ref a0_bytes, .int 0, .int (-1), .int 0, .int 0, .int 0])), (a0_bytes, .inl (E 0, 250, .inl (fun _ => 0)))] s.heap.size = A at hD hG ⊢
  have hA : ∀ q : Nat, s.heap.size ≤ q → A q := fun q h => by rw [← hAe]; exact Or.inr h
  have hS : va_S A s.heap s.heap [] := va_S.rf
  have hP : va_P D vwCl [(a0, .inr (4, [.ref a0_bytes, .int 0, .int (-1), .int 0, .int 0, .int 0])), (a0_bytes, .inl (E 0, 250, .inl (fun _ => 0)))] s.heap := hP
  have hl := lv_entry ([.ref a0, .int v_v, .int v_n]) (n := 4) (Nat.le_of_ble_eq_true rfl)
  rw [lg_entry_eq]
  generalize (lg_sl ([.ref a0, .int v_v, .int v_n]) ++ List.replicate (4 - (lg_sl ([.ref a0, .int v_v, .int v_n])).length) Slot.unset).toArray = ls at hl ⊢
  have hl : lv_has ls 4 [(0, .ref a0), (1, .int v_v), (2, .int v_n)] := hl
  rcases hn with rfl | rfl | rfl | rfl
  · refine lv_iload_n hx hb dX4_append_0 rfl (lv_at hl 2 rfl) ?_
    refine lv_iconst (v := 1) hx hb dX4_append_1 (by decide) ?_
    refine lv_isub hx hb dX4_append_2 ?_
    refine oh_nrm (v := 0) (by decide) ?_
    refine lv_istore_n (lv' := [(3, .int 0), (0, .ref a0), (1, .int v_v), (2, .int 1)]) hx hb dX4_append_3 rfl hl (by decide) rfl (fun ls hl => ?_)
    refine lv_iload_n hx hb dX4_append_4 rfl (lv_at hl 0 rfl) ?_
    refine lv_if_lt (tgt := 43) hx hb dX4_append_5 (by decide) (fun c => absurd c (show ¬ ((0 : Int32) < 0) from by decide)) (fun _ => ?_)
    refine lv_aload_n hx hb dX4_append_8 rfl (lv_at hl 1 rfl) ?_
    refine va_get (D := D) (ci := 4) (v := .ref a0_bytes) (C := RX4) (T := TX4) (N := 6) hx hb htg ig_4 hown hK hP 0 rfl rfl 0 (by decide) (htg _ q_217) (fun _ h9 => h9) rfl dX4_append_9 ?_
    refine lv_aload_n hx hb dX4_append_12 rfl (lv_at hl 1 rfl) ?_
    refine va_get (D := D) (ci := 4) (v := .int 0) (C := RX4) (T := TX4) (N := 6) hx hb htg ig_4 hown hK hP 0 rfl rfl 1 (by decide) (htg _ q_218) (fun _ h9 => h9) rfl dX4_append_13 ?_
    refine lv_iload_n hx hb dX4_append_16 rfl (lv_at hl 2 rfl) ?_
    refine lv_bipush (v := 8) hx hb dX4_append_17 (by decide) ?_
    refine lv_iload_n hx hb dX4_append_19 rfl (lv_at hl 0 rfl) ?_
    refine lv_imul hx hb dX4_append_20 ?_
    refine oh_nrm (v := 0) (by decide) ?_
    refine lv_ishr hx hb dX4_append_21 ?_
    refine lv_sipush (v := 255) hx hb dX4_append_22 (by decide) ?_
    refine lv_iand hx hb dX4_append_25 ?_
    refine va_iast hx hb hK hP hD hS 1 0 rfl rfl (show vp_in 0 250 by unfold vp_in; decide) dX4_append_26 (fun H locs hP hD hS => ?_)
    have hP : va_P D vwCl [(a0, .inr (4, [.ref a0_bytes, .int 0, .int (-1), .int 0, .int 0, .int 0])), (a0_bytes, .inl (E 0, 250, .inl (upd (fun _ => 0) 0 ((v_v >>> ((0 : Int32) &&& 31)) &&& 255))))] H := hP
    have hD : va_D A [(a0, .inr (4, [.ref a0_bytes, .int 0, .int (-1), .int 0, .int 0, .int 0])), (a0_bytes, .inl (E 0, 250, .inl (upd (fun _ => 0) 0 ((v_v >>> ((0 : Int32) &&& 31)) &&& 255))))] := hD
    refine lv_aload_n hx hb dX4_append_27 rfl (lv_at hl 1 rfl) ?_
    refine lv_dup hx hb dX4_append_28 rfl ?_
    refine va_get (D := D) (ci := 4) (v := .int 0) (C := RX4) (T := TX4) (N := 6) hx hb htg ig_4 hown hK hP 0 rfl rfl 1 (by decide) (htg _ q_218) (fun _ h9 => h9) rfl dX4_append_29 ?_
    refine lv_iconst (v := 1) hx hb dX4_append_32 (by decide) ?_
    refine lv_iadd hx hb dX4_append_33 ?_
    refine oh_nrm (v := 1) (by decide) ?_
    refine va_put (D := D) (ci := 4) (v := .int 1) (ty := .int) (C := RX4) (T := TX4) (N := 6) hx hb htg ig_4 tyX4 tyX4_ok nmX4 hown hK hP hD hS 0 rfl rfl 1 (by decide) (htg _ q_218) (fun _ h9 => h9) rfl (by decide +kernel) rfl rfl (Nat.le_of_ble_eq_true rfl) dX4_append_34 (fun H locs hP hD hS => ?_)
    have hP : va_P D vwCl [(a0, .inr (4, [.ref a0_bytes, .int 1, .int (-1), .int 0, .int 0, .int 0])), (a0_bytes, .inl (E 0, 250, .inl (upd (fun _ => 0) 0 ((v_v >>> ((0 : Int32) &&& 31)) &&& 255))))] H := hP
    have hD : va_D A [(a0, .inr (4, [.ref a0_bytes, .int 1, .int (-1), .int 0, .int 0, .int 0])), (a0_bytes, .inl (E 0, 250, .inl (upd (fun _ => 0) 0 ((v_v >>> ((0 : Int32) &&& 31)) &&& 255))))] := hD
    refine lv_iinc (v := (-1)) (lv' := [(3, .int (-1)), (0, .ref a0), (1, .int v_v), (2, .int 1)]) hx hb dX4_append_37 hl (k := 0) rfl (by decide) (by decide) rfl (fun ls hl => ?_)
    refine lv_goto (tgt := 4) hx hb dX4_append_40 (by decide) ?_
    refine lv_iload_n hx hb dX4_append_4 rfl (lv_at hl 0 rfl) ?_
    refine lv_if_lt (tgt := 43) hx hb dX4_append_5 (by decide) (fun _ => ?_) (fun c => absurd (show (-1 : Int32) < 0 from by decide) c)
    refine W.widen (k := 0) (n := 0) (Nat.le_of_ble_eq_true rfl) (Nat.le_of_ble_eq_true rfl) ?_
    exact W.vret hx hb hr (fun t ht hW => ⟨⟨(upd (fun _ => 0) 0 ((v_v >>> ((0 : Int32) &&& 31)) &&& 255)), rfl, trivial, ⟨by rw [ht]; exact hP.sub [0, 1] rfl, hD.sub [0, 1] (by decide) rfl⟩⟩, hS.F ht⟩) hS.2.2 dX4_append_43
  · refine lv_iload_n hx hb dX4_append_0 rfl (lv_at hl 2 rfl) ?_
    refine lv_iconst (v := 1) hx hb dX4_append_1 (by decide) ?_
    refine lv_isub hx hb dX4_append_2 ?_
    refine oh_nrm (v := 1) (by decide) ?_
    refine lv_istore_n (lv' := [(3, .int 1), (0, .ref a0), (1, .int v_v), (2, .int 2)]) hx hb dX4_append_3 rfl hl (by decide) rfl (fun ls hl => ?_)
    refine lv_iload_n hx hb dX4_append_4 rfl (lv_at hl 0 rfl) ?_
    refine lv_if_lt (tgt := 43) hx hb dX4_append_5 (by decide) (fun c => absurd c (show ¬ ((1 : Int32) < 0) from by decide)) (fun _ => ?_)
    refine lv_aload_n hx hb dX4_append_8 rfl (lv_at hl 1 rfl) ?_
    refine va_get (D := D) (ci := 4) (v := .ref a0_bytes) (C := RX4) (T := TX4) (N := 6) hx hb htg ig_4 hown hK hP 0 rfl rfl 0 (by decide) (htg _ q_217) (fun _ h9 => h9) rfl dX4_append_9 ?_
    refine lv_aload_n hx hb dX4_append_12 rfl (lv_at hl 1 rfl) ?_
    refine va_get (D := D) (ci := 4) (v := .int 0) (C := RX4) (T := TX4) (N := 6) hx hb htg ig_4 hown hK hP 0 rfl rfl 1 (by decide) (htg _ q_218) (fun _ h9 => h9) rfl dX4_append_13 ?_
    refine lv_iload_n hx hb dX4_append_16 rfl (lv_at hl 2 rfl) ?_
    refine lv_bipush (v := 8) hx hb dX4_append_17 (by decide) ?_
    refine lv_iload_n hx hb dX4_append_19 rfl (lv_at hl 0 rfl) ?_
    refine lv_imul hx hb dX4_append_20 ?_
    refine oh_nrm (v := 8) (by decide) ?_
    refine lv_ishr hx hb dX4_append_21 ?_
    refine lv_sipush (v := 255) hx hb dX4_append_22 (by decide) ?_
    refine lv_iand hx hb dX4_append_25 ?_
    refine va_iast hx hb hK hP hD hS 1 0 rfl rfl (show vp_in 0 250 by unfold vp_in; decide) dX4_append_26 (fun H locs hP hD hS => ?_)
    have hP : va_P D vwCl [(a0, .inr (4, [.ref a0_bytes, .int 0, .int (-1), .int 0, .int 0, .int 0])), (a0_bytes, .inl (E 0, 250, .inl (upd (fun _ => 0) 0 ((v_v >>> ((8 : Int32) &&& 31)) &&& 255))))] H := hP
    have hD : va_D A [(a0, .inr (4, [.ref a0_bytes, .int 0, .int (-1), .int 0, .int 0, .int 0])), (a0_bytes, .inl (E 0, 250, .inl (upd (fun _ => 0) 0 ((v_v >>> ((8 : Int32) &&& 31)) &&& 255))))] := hD
    refine lv_aload_n hx hb dX4_append_27 rfl (lv_at hl 1 rfl) ?_
    refine lv_dup hx hb dX4_append_28 rfl ?_
    refine va_get (D := D) (ci := 4) (v := .int 0) (C := RX4) (T := TX4) (N := 6) hx hb htg ig_4 hown hK hP 0 rfl rfl 1 (by decide) (htg _ q_218) (fun _ h9 => h9) rfl dX4_append_29 ?_
    refine lv_iconst (v := 1) hx hb dX4_append_32 (by decide) ?_
    refine lv_iadd hx hb dX4_append_33 ?_
    refine oh_nrm (v := 1) (by decide) ?_
    refine va_put (D := D) (ci := 4) (v := .int 1) (ty := .int) (C := RX4) (T := TX4) (N := 6) hx hb htg ig_4 tyX4 tyX4_ok nmX4 hown hK hP hD hS 0 rfl rfl 1 (by decide) (htg _ q_218) (fun _ h9 => h9) rfl (by decide +kernel) rfl rfl (Nat.le_of_ble_eq_true rfl) dX4_append_34 (fun H locs hP hD hS => ?_)
    have hP : va_P D vwCl [(a0, .inr (4, [.ref a0_bytes, .int 1, .int (-1), .int 0, .int 0, .int 0])), (a0_bytes, .inl (E 0, 250, .inl (upd (fun _ => 0) 0 ((v_v >>> ((8 : Int32) &&& 31)) &&& 255))))] H := hP
    have hD : va_D A [(a0, .inr (4, [.ref a0_bytes, .int 1, .int (-1), .int 0, .int 0, .int 0])), (a0_bytes, .inl (E 0, 250, .inl (upd (fun _ => 0) 0 ((v_v >>> ((8 : Int32) &&& 31)) &&& 255))))] := hD
    refine lv_iinc (v := 0) (lv' := [(3, .int 0), (0, .ref a0), (1, .int v_v), (2, .int 2)]) hx hb dX4_append_37 hl (k := 0) rfl (by decide) (by decide) rfl (fun ls hl => ?_)
    refine lv_goto (tgt := 4) hx hb dX4_append_40 (by decide) ?_
    refine lv_iload_n hx hb dX4_append_4 rfl (lv_at hl 0 rfl) ?_
    refine lv_if_lt (tgt := 43) hx hb dX4_append_5 (by decide) (fun c => absurd c (show ¬ ((0 : Int32) < 0) from by decide)) (fun _ => ?_)
    refine lv_aload_n hx hb dX4_append_8 rfl (lv_at hl 1 rfl) ?_
    refine va_get (D := D) (ci := 4) (v := .ref a0_bytes) (C := RX4) (T := TX4) (N := 6) hx hb htg ig_4 hown hK hP 0 rfl rfl 0 (by decide) (htg _ q_217) (fun _ h9 => h9) rfl dX4_append_9 ?_
    refine lv_aload_n hx hb dX4_append_12 rfl (lv_at hl 1 rfl) ?_
    refine va_get (D := D) (ci := 4) (v := .int 1) (C := RX4) (T := TX4) (N := 6) hx hb htg ig_4 hown hK hP 0 rfl rfl 1 (by decide) (htg _ q_218) (fun _ h9 => h9) rfl dX4_append_13 ?_
    refine lv_iload_n hx hb dX4_append_16 rfl (lv_at hl 2 rfl) ?_
    refine lv_bipush (v := 8) hx hb dX4_append_17 (by decide) ?_
    refine lv_iload_n hx hb dX4_append_19 rfl (lv_at hl 0 rfl) ?_
    refine lv_imul hx hb dX4_append_20 ?_
    refine oh_nrm (v := 0) (by decide) ?_
    refine lv_ishr hx hb dX4_append_21 ?_
    refine lv_sipush (v := 255) hx hb dX4_append_22 (by decide) ?_
    refine lv_iand hx hb dX4_append_25 ?_
    refine va_iast hx hb hK hP hD hS 1 0 rfl rfl (show vp_in 1 250 by unfold vp_in; decide) dX4_append_26 (fun H locs hP hD hS => ?_)
    have hP : va_P D vwCl [(a0, .inr (4, [.ref a0_bytes, .int 1, .int (-1), .int 0, .int 0, .int 0])), (a0_bytes, .inl (E 0, 250, .inl (upd (upd (fun _ => 0) 0 ((v_v >>> ((8 : Int32) &&& 31)) &&& 255)) 1 ((v_v >>> ((0 : Int32) &&& 31)) &&& 255))))] H := hP
    have hD : va_D A [(a0, .inr (4, [.ref a0_bytes, .int 1, .int (-1), .int 0, .int 0, .int 0])), (a0_bytes, .inl (E 0, 250, .inl (upd (upd (fun _ => 0) 0 ((v_v >>> ((8 : Int32) &&& 31)) &&& 255)) 1 ((v_v >>> ((0 : Int32) &&& 31)) &&& 255))))] := hD
    refine lv_aload_n hx hb dX4_append_27 rfl (lv_at hl 1 rfl) ?_
    refine lv_dup hx hb dX4_append_28 rfl ?_
    refine va_get (D := D) (ci := 4) (v := .int 1) (C := RX4) (T := TX4) (N := 6) hx hb htg ig_4 hown hK hP 0 rfl rfl 1 (by decide) (htg _ q_218) (fun _ h9 => h9) rfl dX4_append_29 ?_
    refine lv_iconst (v := 1) hx hb dX4_append_32 (by decide) ?_
    refine lv_iadd hx hb dX4_append_33 ?_
    refine oh_nrm (v := 2) (by decide) ?_
    refine va_put (D := D) (ci := 4) (v := .int 2) (ty := .int) (C := RX4) (T := TX4) (N := 6) hx hb htg ig_4 tyX4 tyX4_ok nmX4 hown hK hP hD hS 0 rfl rfl 1 (by decide) (htg _ q_218) (fun _ h9 => h9) rfl (by decide +kernel) rfl rfl (Nat.le_of_ble_eq_true rfl) dX4_append_34 (fun H locs hP hD hS => ?_)
    have hP : va_P D vwCl [(a0, .inr (4, [.ref a0_bytes, .int 2, .int (-1), .int 0, .int 0, .int 0])), (a0_bytes, .inl (E 0, 250, .inl (upd (upd (fun _ => 0) 0 ((v_v >>> ((8 : Int32) &&& 31)) &&& 255)) 1 ((v_v >>> ((0 : Int32) &&& 31)) &&& 255))))] H := hP
    have hD : va_D A [(a0, .inr (4, [.ref a0_bytes, .int 2, .int (-1), .int 0, .int 0, .int 0])), (a0_bytes, .inl (E 0, 250, .inl (upd (upd (fun _ => 0) 0 ((v_v >>> ((8 : Int32) &&& 31)) &&& 255)) 1 ((v_v >>> ((0 : Int32) &&& 31)) &&& 255))))] := hD
    refine lv_iinc (v := (-1)) (lv' := [(3, .int (-1)), (0, .ref a0), (1, .int v_v), (2, .int 2)]) hx hb dX4_append_37 hl (k := 0) rfl (by decide) (by decide) rfl (fun ls hl => ?_)
    refine lv_goto (tgt := 4) hx hb dX4_append_40 (by decide) ?_
    refine lv_iload_n hx hb dX4_append_4 rfl (lv_at hl 0 rfl) ?_
    refine lv_if_lt (tgt := 43) hx hb dX4_append_5 (by decide) (fun _ => ?_) (fun c => absurd (show (-1 : Int32) < 0 from by decide) c)
    refine W.widen (k := 0) (n := 0) (Nat.le_of_ble_eq_true rfl) (Nat.le_of_ble_eq_true rfl) ?_
    exact W.vret hx hb hr (fun t ht hW => ⟨⟨(upd (upd (fun _ => 0) 0 ((v_v >>> ((8 : Int32) &&& 31)) &&& 255)) 1 ((v_v >>> ((0 : Int32) &&& 31)) &&& 255)), rfl, trivial, ⟨by rw [ht]; exact hP.sub [0, 1] rfl, hD.sub [0, 1] (by decide) rfl⟩⟩, hS.F ht⟩) hS.2.2 dX4_append_43
  · refine lv_iload_n hx hb dX4_append_0 rfl (lv_at hl 2 rfl) ?_
    refine lv_iconst (v := 1) hx hb dX4_append_1 (by decide) ?_
    refine lv_isub hx hb dX4_append_2 ?_
    refine oh_nrm (v := 2) (by decide) ?_
    refine lv_istore_n (lv' := [(3, .int 2), (0, .ref a0), (1, .int v_v), (2, .int 3)]) hx hb dX4_append_3 rfl hl (by decide) rfl (fun ls hl => ?_)
    refine lv_iload_n hx hb dX4_append_4 rfl (lv_at hl 0 rfl) ?_
    refine lv_if_lt (tgt := 43) hx hb dX4_append_5 (by decide) (fun c => absurd c (show ¬ ((2 : Int32) < 0) from by decide)) (fun _ => ?_)
    refine lv_aload_n hx hb dX4_append_8 rfl (lv_at hl 1 rfl) ?_
    refine va_get (D := D) (ci := 4) (v := .ref a0_bytes) (C := RX4) (T := TX4) (N := 6) hx hb htg ig_4 hown hK hP 0 rfl rfl 0 (by decide) (htg _ q_217) (fun _ h9 => h9) rfl dX4_append_9 ?_
    refine lv_aload_n hx hb dX4_append_12 rfl (lv_at hl 1 rfl) ?_
    refine va_get (D := D) (ci := 4) (v := .int 0) (C := RX4) (T := TX4) (N := 6) hx hb htg ig_4 hown hK hP 0 rfl rfl 1 (by decide) (htg _ q_218) (fun _ h9 => h9) rfl dX4_append_13 ?_
    refine lv_iload_n hx hb dX4_append_16 rfl (lv_at hl 2 rfl) ?_
    refine lv_bipush (v := 8) hx hb dX4_append_17 (by decide) ?_
    refine lv_iload_n hx hb dX4_append_19 rfl (lv_at hl 0 rfl) ?_
    refine lv_imul hx hb dX4_append_20 ?_
    refine oh_nrm (v := 16) (by decide) ?_
    refine lv_ishr hx hb dX4_append_21 ?_
    refine lv_sipush (v := 255) hx hb dX4_append_22 (by decide) ?_
    refine lv_iand hx hb dX4_append_25 ?_
    refine va_iast hx hb hK hP hD hS 1 0 rfl rfl (show vp_in 0 250 by unfold vp_in; decide) dX4_append_26 (fun H locs hP hD hS => ?_)
    have hP : va_P D vwCl [(a0, .inr (4, [.ref a0_bytes, .int 0, .int (-1), .int 0, .int 0, .int 0])), (a0_bytes, .inl (E 0, 250, .inl (upd (fun _ => 0) 0 ((v_v >>> ((16 : Int32) &&& 31)) &&& 255))))] H := hP
    have hD : va_D A [(a0, .inr (4, [.ref a0_bytes, .int 0, .int (-1), .int 0, .int 0, .int 0])), (a0_bytes, .inl (E 0, 250, .inl (upd (fun _ => 0) 0 ((v_v >>> ((16 : Int32) &&& 31)) &&& 255))))] := hD
    refine lv_aload_n hx hb dX4_append_27 rfl (lv_at hl 1 rfl) ?_
    refine lv_dup hx hb dX4_append_28 rfl ?_
    refine va_get (D := D) (ci := 4) (v := .int 0) (C := RX4) (T := TX4) (N := 6) hx hb htg ig_4 hown hK hP 0 rfl rfl 1 (by decide) (htg _ q_218) (fun _ h9 => h9) rfl dX4_append_29 ?_
    refine lv_iconst (v := 1) hx hb dX4_append_32 (by decide) ?_
    refine lv_iadd hx hb dX4_append_33 ?_
    refine oh_nrm (v := 1) (by decide) ?_
    refine va_put (D := D) (ci := 4) (v := .int 1) (ty := .int) (C := RX4) (T := TX4) (N := 6) hx hb htg ig_4 tyX4 tyX4_ok nmX4 hown hK hP hD hS 0 rfl rfl 1 (by decide) (htg _ q_218) (fun _ h9 => h9) rfl (by decide +kernel) rfl rfl (Nat.le_of_ble_eq_true rfl) dX4_append_34 (fun H locs hP hD hS => ?_)
    have hP : va_P D vwCl [(a0, .inr (4, [.ref a0_bytes, .int 1, .int (-1), .int 0, .int 0, .int 0])), (a0_bytes, .inl (E 0, 250, .inl (upd (fun _ => 0) 0 ((v_v >>> ((16 : Int32) &&& 31)) &&& 255))))] H := hP
    have hD : va_D A [(a0, .inr (4, [.ref a0_bytes, .int 1, .int (-1), .int 0, .int 0, .int 0])), (a0_bytes, .inl (E 0, 250, .inl (upd (fun _ => 0) 0 ((v_v >>> ((16 : Int32) &&& 31)) &&& 255))))] := hD
    refine lv_iinc (v := 1) (lv' := [(3, .int 1), (0, .ref a0), (1, .int v_v), (2, .int 3)]) hx hb dX4_append_37 hl (k := 0) rfl (by decide) (by decide) rfl (fun ls hl => ?_)
    refine lv_goto (tgt := 4) hx hb dX4_append_40 (by decide) ?_
    refine lv_iload_n hx hb dX4_append_4 rfl (lv_at hl 0 rfl) ?_
    refine lv_if_lt (tgt := 43) hx hb dX4_append_5 (by decide) (fun c => absurd c (show ¬ ((1 : Int32) < 0) from by decide)) (fun _ => ?_)
    refine lv_aload_n hx hb dX4_append_8 rfl (lv_at hl 1 rfl) ?_
    refine va_get (D := D) (ci := 4) (v := .ref a0_bytes) (C := RX4) (T := TX4) (N := 6) hx hb htg ig_4 hown hK hP 0 rfl rfl 0 (by decide) (htg _ q_217) (fun _ h9 => h9) rfl dX4_append_9 ?_
    refine lv_aload_n hx hb dX4_append_12 rfl (lv_at hl 1 rfl) ?_
    refine va_get (D := D) (ci := 4) (v := .int 1) (C := RX4) (T := TX4) (N := 6) hx hb htg ig_4 hown hK hP 0 rfl rfl 1 (by decide) (htg _ q_218) (fun _ h9 => h9) rfl dX4_append_13 ?_
    refine lv_iload_n hx hb dX4_append_16 rfl (lv_at hl 2 rfl) ?_
    refine lv_bipush (v := 8) hx hb dX4_append_17 (by decide) ?_
    refine lv_iload_n hx hb dX4_append_19 rfl (lv_at hl 0 rfl) ?_
    refine lv_imul hx hb dX4_append_20 ?_
    refine oh_nrm (v := 8) (by decide) ?_
    refine lv_ishr hx hb dX4_append_21 ?_
    refine lv_sipush (v := 255) hx hb dX4_append_22 (by decide) ?_
    refine lv_iand hx hb dX4_append_25 ?_
    refine va_iast hx hb hK hP hD hS 1 0 rfl rfl (show vp_in 1 250 by unfold vp_in; decide) dX4_append_26 (fun H locs hP hD hS => ?_)
    have hP : va_P D vwCl [(a0, .inr (4, [.ref a0_bytes, .int 1, .int (-1), .int 0, .int 0, .int 0])), (a0_bytes, .inl (E 0, 250, .inl (upd (upd (fun _ => 0) 0 ((v_v >>> ((16 : Int32) &&& 31)) &&& 255)) 1 ((v_v >>> ((8 : Int32) &&& 31)) &&& 255))))] H := hP
    have hD : va_D A [(a0, .inr (4, [.ref a0_bytes, .int 1, .int (-1), .int 0, .int 0, .int 0])), (a0_bytes, .inl (E 0, 250, .inl (upd (upd (fun _ => 0) 0 ((v_v >>> ((16 : Int32) &&& 31)) &&& 255)) 1 ((v_v >>> ((8 : Int32) &&& 31)) &&& 255))))] := hD
    refine lv_aload_n hx hb dX4_append_27 rfl (lv_at hl 1 rfl) ?_
    refine lv_dup hx hb dX4_append_28 rfl ?_
    refine va_get (D := D) (ci := 4) (v := .int 1) (C := RX4) (T := TX4) (N := 6) hx hb htg ig_4 hown hK hP 0 rfl rfl 1 (by decide) (htg _ q_218) (fun _ h9 => h9) rfl dX4_append_29 ?_
    refine lv_iconst (v := 1) hx hb dX4_append_32 (by decide) ?_
    refine lv_iadd hx hb dX4_append_33 ?_
    refine oh_nrm (v := 2) (by decide) ?_
    refine va_put (D := D) (ci := 4) (v := .int 2) (ty := .int) (C := RX4) (T := TX4) (N := 6) hx hb htg ig_4 tyX4 tyX4_ok nmX4 hown hK hP hD hS 0 rfl rfl 1 (by decide) (htg _ q_218) (fun _ h9 => h9) rfl (by decide +kernel) rfl rfl (Nat.le_of_ble_eq_true rfl) dX4_append_34 (fun H locs hP hD hS => ?_)
    have hP : va_P D vwCl [(a0, .inr (4, [.ref a0_bytes, .int 2, .int (-1), .int 0, .int 0, .int 0])), (a0_bytes, .inl (E 0, 250, .inl (upd (upd (fun _ => 0) 0 ((v_v >>> ((16 : Int32) &&& 31)) &&& 255)) 1 ((v_v >>> ((8 : Int32) &&& 31)) &&& 255))))] H := hP
    have hD : va_D A [(a0, .inr (4, [.ref a0_bytes, .int 2, .int (-1), .int 0, .int 0, .int 0])), (a0_bytes, .inl (E 0, 250, .inl (upd (upd (fun _ => 0) 0 ((v_v >>> ((16 : Int32) &&& 31)) &&& 255)) 1 ((v_v >>> ((8 : Int32) &&& 31)) &&& 255))))] := hD
    refine lv_iinc (v := 0) (lv' := [(3, .int 0), (0, .ref a0), (1, .int v_v), (2, .int 3)]) hx hb dX4_append_37 hl (k := 0) rfl (by decide) (by decide) rfl (fun ls hl => ?_)
    refine lv_goto (tgt := 4) hx hb dX4_append_40 (by decide) ?_
    refine lv_iload_n hx hb dX4_append_4 rfl (lv_at hl 0 rfl) ?_
    refine lv_if_lt (tgt := 43) hx hb dX4_append_5 (by decide) (fun c => absurd c (show ¬ ((0 : Int32) < 0) from by decide)) (fun _ => ?_)
    refine lv_aload_n hx hb dX4_append_8 rfl (lv_at hl 1 rfl) ?_
    refine va_get (D := D) (ci := 4) (v := .ref a0_bytes) (C := RX4) (T := TX4) (N := 6) hx hb htg ig_4 hown hK hP 0 rfl rfl 0 (by decide) (htg _ q_217) (fun _ h9 => h9) rfl dX4_append_9 ?_
    refine lv_aload_n hx hb dX4_append_12 rfl (lv_at hl 1 rfl) ?_
    refine va_get (D := D) (ci := 4) (v := .int 2) (C := RX4) (T := TX4) (N := 6) hx hb htg ig_4 hown hK hP 0 rfl rfl 1 (by decide) (htg _ q_218) (fun _ h9 => h9) rfl dX4_append_13 ?_
    refine lv_iload_n hx hb dX4_append_16 rfl (lv_at hl 2 rfl) ?_
    refine lv_bipush (v := 8) hx hb dX4_append_17 (by decide) ?_
    refine lv_iload_n hx hb dX4_append_19 rfl (lv_at hl 0 rfl) ?_
    refine lv_imul hx hb dX4_append_20 ?_
    refine oh_nrm (v := 0) (by decide) ?_
    refine lv_ishr hx hb dX4_append_21 ?_
    refine lv_sipush (v := 255) hx hb dX4_append_22 (by decide) ?_
    refine lv_iand hx hb dX4_append_25 ?_
    refine va_iast hx hb hK hP hD hS 1 0 rfl rfl (show vp_in 2 250 by unfold vp_in; decide) dX4_append_26 (fun H locs hP hD hS => ?_)
    have hP : va_P D vwCl [(a0, .inr (4, [.ref a0_bytes, .int 2, .int (-1), .int 0, .int 0, .int 0])), (a0_bytes, .inl (E 0, 250, .inl (upd (upd (upd (fun _ => 0) 0 ((v_v >>> ((16 : Int32) &&& 31)) &&& 255)) 1 ((v_v >>> ((8 : Int32) &&& 31)) &&& 255)) 2 ((v_v >>> ((0 : Int32) &&& 31)) &&& 255))))] H := hP
    have hD : va_D A [(a0, .inr (4, [.ref a0_bytes, .int 2, .int (-1), .int 0, .int 0, .int 0])), (a0_bytes, .inl (E 0, 250, .inl (upd (upd (upd (fun _ => 0) 0 ((v_v >>> ((16 : Int32) &&& 31)) &&& 255)) 1 ((v_v >>> ((8 : Int32) &&& 31)) &&& 255)) 2 ((v_v >>> ((0 : Int32) &&& 31)) &&& 255))))] := hD
    refine lv_aload_n hx hb dX4_append_27 rfl (lv_at hl 1 rfl) ?_
    refine lv_dup hx hb dX4_append_28 rfl ?_
    refine va_get (D := D) (ci := 4) (v := .int 2) (C := RX4) (T := TX4) (N := 6) hx hb htg ig_4 hown hK hP 0 rfl rfl 1 (by decide) (htg _ q_218) (fun _ h9 => h9) rfl dX4_append_29 ?_
    refine lv_iconst (v := 1) hx hb dX4_append_32 (by decide) ?_
    refine lv_iadd hx hb dX4_append_33 ?_
    refine oh_nrm (v := 3) (by decide) ?_
    refine va_put (D := D) (ci := 4) (v := .int 3) (ty := .int) (C := RX4) (T := TX4) (N := 6) hx hb htg ig_4 tyX4 tyX4_ok nmX4 hown hK hP hD hS 0 rfl rfl 1 (by decide) (htg _ q_218) (fun _ h9 => h9) rfl (by decide +kernel) rfl rfl (Nat.le_of_ble_eq_true rfl) dX4_append_34 (fun H locs hP hD hS => ?_)
    have hP : va_P D vwCl [(a0, .inr (4, [.ref a0_bytes, .int 3, .int (-1), .int 0, .int 0, .int 0])), (a0_bytes, .inl (E 0, 250, .inl (upd (upd (upd (fun _ => 0) 0 ((v_v >>> ((16 : Int32) &&& 31)) &&& 255)) 1 ((v_v >>> ((8 : Int32) &&& 31)) &&& 255)) 2 ((v_v >>> ((0 : Int32) &&& 31)) &&& 255))))] H := hP
    have hD : va_D A [(a0, .inr (4, [.ref a0_bytes, .int 3, .int (-1), .int 0, .int 0, .int 0])), (a0_bytes, .inl (E 0, 250, .inl (upd (upd (upd (fun _ => 0) 0 ((v_v >>> ((16 : Int32) &&& 31)) &&& 255)) 1 ((v_v >>> ((8 : Int32) &&& 31)) &&& 255)) 2 ((v_v >>> ((0 : Int32) &&& 31)) &&& 255))))] := hD
    refine lv_iinc (v := (-1)) (lv' := [(3, .int (-1)), (0, .ref a0), (1, .int v_v), (2, .int 3)]) hx hb dX4_append_37 hl (k := 0) rfl (by decide) (by decide) rfl (fun ls hl => ?_)
    refine lv_goto (tgt := 4) hx hb dX4_append_40 (by decide) ?_
    refine lv_iload_n hx hb dX4_append_4 rfl (lv_at hl 0 rfl) ?_
    refine lv_if_lt (tgt := 43) hx hb dX4_append_5 (by decide) (fun _ => ?_) (fun c => absurd (show (-1 : Int32) < 0 from by decide) c)
    refine W.widen (k := 0) (n := 0) (Nat.le_of_ble_eq_true rfl) (Nat.le_of_ble_eq_true rfl) ?_
    exact W.vret hx hb hr (fun t ht hW => ⟨⟨(upd (upd (upd (fun _ => 0) 0 ((v_v >>> ((16 : Int32) &&& 31)) &&& 255)) 1 ((v_v >>> ((8 : Int32) &&& 31)) &&& 255)) 2 ((v_v >>> ((0 : Int32) &&& 31)) &&& 255)), rfl, trivial, ⟨by rw [ht]; exact hP.sub [0, 1] rfl, hD.sub [0, 1] (by decide) rfl⟩⟩, hS.F ht⟩) hS.2.2 dX4_append_43
  · refine lv_iload_n hx hb dX4_append_0 rfl (lv_at hl 2 rfl) ?_
    refine lv_iconst (v := 1) hx hb dX4_append_1 (by decide) ?_
    refine lv_isub hx hb dX4_append_2 ?_
    refine oh_nrm (v := 3) (by decide) ?_
    refine lv_istore_n (lv' := [(3, .int 3), (0, .ref a0), (1, .int v_v), (2, .int 4)]) hx hb dX4_append_3 rfl hl (by decide) rfl (fun ls hl => ?_)
    refine lv_iload_n hx hb dX4_append_4 rfl (lv_at hl 0 rfl) ?_
    refine lv_if_lt (tgt := 43) hx hb dX4_append_5 (by decide) (fun c => absurd c (show ¬ ((3 : Int32) < 0) from by decide)) (fun _ => ?_)
    refine lv_aload_n hx hb dX4_append_8 rfl (lv_at hl 1 rfl) ?_
    refine va_get (D := D) (ci := 4) (v := .ref a0_bytes) (C := RX4) (T := TX4) (N := 6) hx hb htg ig_4 hown hK hP 0 rfl rfl 0 (by decide) (htg _ q_217) (fun _ h9 => h9) rfl dX4_append_9 ?_
    refine lv_aload_n hx hb dX4_append_12 rfl (lv_at hl 1 rfl) ?_
    refine va_get (D := D) (ci := 4) (v := .int 0) (C := RX4) (T := TX4) (N := 6) hx hb htg ig_4 hown hK hP 0 rfl rfl 1 (by decide) (htg _ q_218) (fun _ h9 => h9) rfl dX4_append_13 ?_
    refine lv_iload_n hx hb dX4_append_16 rfl (lv_at hl 2 rfl) ?_
    refine lv_bipush (v := 8) hx hb dX4_append_17 (by decide) ?_
    refine lv_iload_n hx hb dX4_append_19 rfl (lv_at hl 0 rfl) ?_
    refine lv_imul hx hb dX4_append_20 ?_
    refine oh_nrm (v := 24) (by decide) ?_
    refine lv_ishr hx hb dX4_append_21 ?_
    refine lv_sipush (v := 255) hx hb dX4_append_22 (by decide) ?_
    refine lv_iand hx hb dX4_append_25 ?_
    refine va_iast hx hb hK hP hD hS 1 0 rfl rfl (show vp_in 0 250 by unfold vp_in; decide) dX4_append_26 (fun H locs hP hD hS => ?_)
    have hP : va_P D vwCl [(a0, .inr (4, [.ref a0_bytes, .int 0, .int (-1), .int 0, .int 0, .int 0])), (a0_bytes, .inl (E 0, 250, .inl (upd (fun _ => 0) 0 ((v_v >>> ((24 : Int32) &&& 31)) &&& 255))))] H := hP
    have hD : va_D A [(a0, .inr (4, [.ref a0_bytes, .int 0, .int (-1), .int 0, .int 0, .int 0])), (a0_bytes, .inl (E 0, 250, .inl (upd (fun _ => 0) 0 ((v_v >>> ((24 : Int32) &&& 31)) &&& 255))))] := hD
    refine lv_aload_n hx hb dX4_append_27 rfl (lv_at hl 1 rfl) ?_
    refine lv_dup hx hb dX4_append_28 rfl ?_
    refine va_get (D := D) (ci := 4) (v := .int 0) (C := RX4) (T := TX4) (N := 6) hx hb htg ig_4 hown hK hP 0 rfl rfl 1 (by decide) (htg _ q_218) (fun _ h9 => h9) rfl dX4_append_29 ?_
    refine lv_iconst (v := 1) hx hb dX4_append_32 (by decide) ?_
    refine lv_iadd hx hb dX4_append_33 ?_
    refine oh_nrm (v := 1) (by decide) ?_
    refine va_put (D := D) (ci := 4) (v := .int 1) (ty := .int) (C := RX4) (T := TX4) (N := 6) hx hb htg ig_4 tyX4 tyX4_ok nmX4 hown hK hP hD hS 0 rfl rfl 1 (by decide) (htg _ q_218) (fun _ h9 => h9) rfl (by decide +kernel) rfl rfl (Nat.le_of_ble_eq_true rfl) dX4_append_34 (fun H locs hP hD hS => ?_)
    have hP : va_P D vwCl [(a0, .inr (4, [.ref a0_bytes, .int 1, .int (-1), .int 0, .int 0, .int 0])), (a0_bytes, .inl (E 0, 250, .inl (upd (fun _ => 0) 0 ((v_v >>> ((24 : Int32) &&& 31)) &&& 255))))] H := hP
    have hD : va_D A [(a0, .inr (4, [.ref a0_bytes, .int 1, .int (-1), .int 0, .int 0, .int 0])), (a0_bytes, .inl (E 0, 250, .inl (upd (fun _ => 0) 0 ((v_v >>> ((24 : Int32) &&& 31)) &&& 255))))] := hD
    refine lv_iinc (v := 2) (lv' := [(3, .int 2), (0, .ref a0), (1, .int v_v), (2, .int 4)]) hx hb dX4_append_37 hl (k := 0) rfl (by decide) (by decide) rfl (fun ls hl => ?_)
    refine lv_goto (tgt := 4) hx hb dX4_append_40 (by decide) ?_
    refine lv_iload_n hx hb dX4_append_4 rfl (lv_at hl 0 rfl) ?_
    refine lv_if_lt (tgt := 43) hx hb dX4_append_5 (by decide) (fun c => absurd c (show ¬ ((2 : Int32) < 0) from by decide)) (fun _ => ?_)
    refine lv_aload_n hx hb dX4_append_8 rfl (lv_at hl 1 rfl) ?_
    refine va_get (D := D) (ci := 4) (v := .ref a0_bytes) (C := RX4) (T := TX4) (N := 6) hx hb htg ig_4 hown hK hP 0 rfl rfl 0 (by decide) (htg _ q_217) (fun _ h9 => h9) rfl dX4_append_9 ?_
    refine lv_aload_n hx hb dX4_append_12 rfl (lv_at hl 1 rfl) ?_
    refine va_get (D := D) (ci := 4) (v := .int 1) (C := RX4) (T := TX4) (N := 6) hx hb htg ig_4 hown hK hP 0 rfl rfl 1 (by decide) (htg _ q_218) (fun _ h9 => h9) rfl dX4_append_13 ?_
    refine lv_iload_n hx hb dX4_append_16 rfl (lv_at hl 2 rfl) ?_
    refine lv_bipush (v := 8) hx hb dX4_append_17 (by decide) ?_
    refine lv_iload_n hx hb dX4_append_19 rfl (lv_at hl 0 rfl) ?_
    refine lv_imul hx hb dX4_append_20 ?_
    refine oh_nrm (v := 16) (by decide) ?_
    refine lv_ishr hx hb dX4_append_21 ?_
    refine lv_sipush (v := 255) hx hb dX4_append_22 (by decide) ?_
    refine lv_iand hx hb dX4_append_25 ?_
    refine va_iast hx hb hK hP hD hS 1 0 rfl rfl (show vp_in 1 250 by unfold vp_in; decide) dX4_append_26 (fun H locs hP hD hS => ?_)
    have hP : va_P D vwCl [(a0, .inr (4, [.ref a0_bytes, .int 1, .int (-1), .int 0, .int 0, .int 0])), (a0_bytes, .inl (E 0, 250, .inl (upd (upd (fun _ => 0) 0 ((v_v >>> ((24 : Int32) &&& 31)) &&& 255)) 1 ((v_v >>> ((16 : Int32) &&& 31)) &&& 255))))] H := hP
    have hD : va_D A [(a0, .inr (4, [.ref a0_bytes, .int 1, .int (-1), .int 0, .int 0, .int 0])), (a0_bytes, .inl (E 0, 250, .inl (upd (upd (fun _ => 0) 0 ((v_v >>> ((24 : Int32) &&& 31)) &&& 255)) 1 ((v_v >>> ((16 : Int32) &&& 31)) &&& 255))))] := hD
    refine lv_aload_n hx hb dX4_append_27 rfl (lv_at hl 1 rfl) ?_
    refine lv_dup hx hb dX4_append_28 rfl ?_
    refine va_get (D := D) (ci := 4) (v := .int 1) (C := RX4) (T := TX4) (N := 6) hx hb htg ig_4 hown hK hP 0 rfl rfl 1 (by decide) (htg _ q_218) (fun _ h9 => h9) rfl dX4_append_29 ?_
    refine lv_iconst (v := 1) hx hb dX4_append_32 (by decide) ?_
    refine lv_iadd hx hb dX4_append_33 ?_
    refine oh_nrm (v := 2) (by decide) ?_
    refine va_put (D := D) (ci := 4) (v := .int 2) (ty := .int) (C := RX4) (T := TX4) (N := 6) hx hb htg ig_4 tyX4 tyX4_ok nmX4 hown hK hP hD hS 0 rfl rfl 1 (by decide) (htg _ q_218) (fun _ h9 => h9) rfl (by decide +kernel) rfl rfl (Nat.le_of_ble_eq_true rfl) dX4_append_34 (fun H locs hP hD hS => ?_)
    have hP : va_P D vwCl [(a0, .inr (4, [.ref a0_bytes, .int 2, .int (-1), .int 0, .int 0, .int 0])), (a0_bytes, .inl (E 0, 250, .inl (upd (upd (fun _ => 0) 0 ((v_v >>> ((24 : Int32) &&& 31)) &&& 255)) 1 ((v_v >>> ((16 : Int32) &&& 31)) &&& 255))))] H := hP
    have hD : va_D A [(a0, .inr (4, [.ref a0_bytes, .int 2, .int (-1), .int 0, .int 0, .int 0])), (a0_bytes, .inl (E 0, 250, .inl (upd (upd (fun _ => 0) 0 ((v_v >>> ((24 : Int32) &&& 31)) &&& 255)) 1 ((v_v >>> ((16 : Int32) &&& 31)) &&& 255))))] := hD
    refine lv_iinc (v := 1) (lv' := [(3, .int 1), (0, .ref a0), (1, .int v_v), (2, .int 4)]) hx hb dX4_append_37 hl (k := 0) rfl (by decide) (by decide) rfl (fun ls hl => ?_)
    refine lv_goto (tgt := 4) hx hb dX4_append_40 (by decide) ?_
    refine lv_iload_n hx hb dX4_append_4 rfl (lv_at hl 0 rfl) ?_
    refine lv_if_lt (tgt := 43) hx hb dX4_append_5 (by decide) (fun c => absurd c (show ¬ ((1 : Int32) < 0) from by decide)) (fun _ => ?_)
    refine lv_aload_n hx hb dX4_append_8 rfl (lv_at hl 1 rfl) ?_
    refine va_get (D := D) (ci := 4) (v := .ref a0_bytes) (C := RX4) (T := TX4) (N := 6) hx hb htg ig_4 hown hK hP 0 rfl rfl 0 (by decide) (htg _ q_217) (fun _ h9 => h9) rfl dX4_append_9 ?_
    refine lv_aload_n hx hb dX4_append_12 rfl (lv_at hl 1 rfl) ?_
    refine va_get (D := D) (ci := 4) (v := .int 2) (C := RX4) (T := TX4) (N := 6) hx hb htg ig_4 hown hK hP 0 rfl rfl 1 (by decide) (htg _ q_218) (fun _ h9 => h9) rfl dX4_append_13 ?_
    refine lv_iload_n hx hb dX4_append_16 rfl (lv_at hl 2 rfl) ?_
    refine lv_bipush (v := 8) hx hb dX4_append_17 (by decide) ?_
    refine lv_iload_n hx hb dX4_append_19 rfl (lv_at hl 0 rfl) ?_
    refine lv_imul hx hb dX4_append_20 ?_
    refine oh_nrm (v := 8) (by decide) ?_
    refine lv_ishr hx hb dX4_append_21 ?_
    refine lv_sipush (v := 255) hx hb dX4_append_22 (by decide) ?_
    refine lv_iand hx hb dX4_append_25 ?_
    refine va_iast hx hb hK hP hD hS 1 0 rfl rfl (show vp_in 2 250 by unfold vp_in; decide) dX4_append_26 (fun H locs hP hD hS => ?_)
    have hP : va_P D vwCl [(a0, .inr (4, [.ref a0_bytes, .int 2, .int (-1), .int 0, .int 0, .int 0])), (a0_bytes, .inl (E 0, 250, .inl (upd (upd (upd (fun _ => 0) 0 ((v_v >>> ((24 : Int32) &&& 31)) &&& 255)) 1 ((v_v >>> ((16 : Int32) &&& 31)) &&& 255)) 2 ((v_v >>> ((8 : Int32) &&& 31)) &&& 255))))] H := hP
    have hD : va_D A [(a0, .inr (4, [.ref a0_bytes, .int 2, .int (-1), .int 0, .int 0, .int 0])), (a0_bytes, .inl (E 0, 250, .inl (upd (upd (upd (fun _ => 0) 0 ((v_v >>> ((24 : Int32) &&& 31)) &&& 255)) 1 ((v_v >>> ((16 : Int32) &&& 31)) &&& 255)) 2 ((v_v >>> ((8 : Int32) &&& 31)) &&& 255))))] := hD
    refine lv_aload_n hx hb dX4_append_27 rfl (lv_at hl 1 rfl) ?_
    refine lv_dup hx hb dX4_append_28 rfl ?_
    refine va_get (D := D) (ci := 4) (v := .int 2) (C := RX4) (T := TX4) (N := 6) hx hb htg ig_4 hown hK hP 0 rfl rfl 1 (by decide) (htg _ q_218) (fun _ h9 => h9) rfl dX4_append_29 ?_
    refine lv_iconst (v := 1) hx hb dX4_append_32 (by decide) ?_
    refine lv_iadd hx hb dX4_append_33 ?_
    refine oh_nrm (v := 3) (by decide) ?_
    refine va_put (D := D) (ci := 4) (v := .int 3) (ty := .int) (C := RX4) (T := TX4) (N := 6) hx hb htg ig_4 tyX4 tyX4_ok nmX4 hown hK hP hD hS 0 rfl rfl 1 (by decide) (htg _ q_218) (fun _ h9 => h9) rfl (by decide +kernel) rfl rfl (Nat.le_of_ble_eq_true rfl) dX4_append_34 (fun H locs hP hD hS => ?_)
    have hP : va_P D vwCl [(a0, .inr (4, [.ref a0_bytes, .int 3, .int (-1), .int 0, .int 0, .int 0])), (a0_bytes, .inl (E 0, 250, .inl (upd (upd (upd (fun _ => 0) 0 ((v_v >>> ((24 : Int32) &&& 31)) &&& 255)) 1 ((v_v >>> ((16 : Int32) &&& 31)) &&& 255)) 2 ((v_v >>> ((8 : Int32) &&& 31)) &&& 255))))] H := hP
    have hD : va_D A [(a0, .inr (4, [.ref a0_bytes, .int 3, .int (-1), .int 0, .int 0, .int 0])), (a0_bytes, .inl (E 0, 250, .inl (upd (upd (upd (fun _ => 0) 0 ((v_v >>> ((24 : Int32) &&& 31)) &&& 255)) 1 ((v_v >>> ((16 : Int32) &&& 31)) &&& 255)) 2 ((v_v >>> ((8 : Int32) &&& 31)) &&& 255))))] := hD
    refine lv_iinc (v := 0) (lv' := [(3, .int 0), (0, .ref a0), (1, .int v_v), (2, .int 4)]) hx hb dX4_append_37 hl (k := 0) rfl (by decide) (by decide) rfl (fun ls hl => ?_)
    refine lv_goto (tgt := 4) hx hb dX4_append_40 (by decide) ?_
    refine lv_iload_n hx hb dX4_append_4 rfl (lv_at hl 0 rfl) ?_
    refine lv_if_lt (tgt := 43) hx hb dX4_append_5 (by decide) (fun c => absurd c (show ¬ ((0 : Int32) < 0) from by decide)) (fun _ => ?_)
    refine lv_aload_n hx hb dX4_append_8 rfl (lv_at hl 1 rfl) ?_
    refine va_get (D := D) (ci := 4) (v := .ref a0_bytes) (C := RX4) (T := TX4) (N := 6) hx hb htg ig_4 hown hK hP 0 rfl rfl 0 (by decide) (htg _ q_217) (fun _ h9 => h9) rfl dX4_append_9 ?_
    refine lv_aload_n hx hb dX4_append_12 rfl (lv_at hl 1 rfl) ?_
    refine va_get (D := D) (ci := 4) (v := .int 3) (C := RX4) (T := TX4) (N := 6) hx hb htg ig_4 hown hK hP 0 rfl rfl 1 (by decide) (htg _ q_218) (fun _ h9 => h9) rfl dX4_append_13 ?_
    refine lv_iload_n hx hb dX4_append_16 rfl (lv_at hl 2 rfl) ?_
    refine lv_bipush (v := 8) hx hb dX4_append_17 (by decide) ?_
    refine lv_iload_n hx hb dX4_append_19 rfl (lv_at hl 0 rfl) ?_
    refine lv_imul hx hb dX4_append_20 ?_
    refine oh_nrm (v := 0) (by decide) ?_
    refine lv_ishr hx hb dX4_append_21 ?_
    refine lv_sipush (v := 255) hx hb dX4_append_22 (by decide) ?_
    refine lv_iand hx hb dX4_append_25 ?_
    refine va_iast hx hb hK hP hD hS 1 0 rfl rfl (show vp_in 3 250 by unfold vp_in; decide) dX4_append_26 (fun H locs hP hD hS => ?_)
    have hP : va_P D vwCl [(a0, .inr (4, [.ref a0_bytes, .int 3, .int (-1), .int 0, .int 0, .int 0])), (a0_bytes, .inl (E 0, 250, .inl (upd (upd (upd (upd (fun _ => 0) 0 ((v_v >>> ((24 : Int32) &&& 31)) &&& 255)) 1 ((v_v >>> ((16 : Int32) &&& 31)) &&& 255)) 2 ((v_v >>> ((8 : Int32) &&& 31)) &&& 255)) 3 ((v_v >>> ((0 : Int32) &&& 31)) &&& 255))))] H := hP
    have hD : va_D A [(a0, .inr (4, [.ref a0_bytes, .int 3, .int (-1), .int 0, .int 0, .int 0])), (a0_bytes, .inl (E 0, 250, .inl (upd (upd (upd (upd (fun _ => 0) 0 ((v_v >>> ((24 : Int32) &&& 31)) &&& 255)) 1 ((v_v >>> ((16 : Int32) &&& 31)) &&& 255)) 2 ((v_v >>> ((8 : Int32) &&& 31)) &&& 255)) 3 ((v_v >>> ((0 : Int32) &&& 31)) &&& 255))))] := hD
    refine lv_aload_n hx hb dX4_append_27 rfl (lv_at hl 1 rfl) ?_
    refine lv_dup hx hb dX4_append_28 rfl ?_
    refine va_get (D := D) (ci := 4) (v := .int 3) (C := RX4) (T := TX4) (N := 6) hx hb htg ig_4 hown hK hP 0 rfl rfl 1 (by decide) (htg _ q_218) (fun _ h9 => h9) rfl dX4_append_29 ?_
    refine lv_iconst (v := 1) hx hb dX4_append_32 (by decide) ?_
    refine lv_iadd hx hb dX4_append_33 ?_
    refine oh_nrm (v := 4) (by decide) ?_
    refine va_put (D := D) (ci := 4) (v := .int 4) (ty := .int) (C := RX4) (T := TX4) (N := 6) hx hb htg ig_4 tyX4 tyX4_ok nmX4 hown hK hP hD hS 0 rfl rfl 1 (by decide) (htg _ q_218) (fun _ h9 => h9) rfl (by decide +kernel) rfl rfl (Nat.le_of_ble_eq_true rfl) dX4_append_34 (fun H locs hP hD hS => ?_)
    have hP : va_P D vwCl [(a0, .inr (4, [.ref a0_bytes, .int 4, .int (-1), .int 0, .int 0, .int 0])), (a0_bytes, .inl (E 0, 250, .inl (upd (upd (upd (upd (fun _ => 0) 0 ((v_v >>> ((24 : Int32) &&& 31)) &&& 255)) 1 ((v_v >>> ((16 : Int32) &&& 31)) &&& 255)) 2 ((v_v >>> ((8 : Int32) &&& 31)) &&& 255)) 3 ((v_v >>> ((0 : Int32) &&& 31)) &&& 255))))] H := hP
    have hD : va_D A [(a0, .inr (4, [.ref a0_bytes, .int 4, .int (-1), .int 0, .int 0, .int 0])), (a0_bytes, .inl (E 0, 250, .inl (upd (upd (upd (upd (fun _ => 0) 0 ((v_v >>> ((24 : Int32) &&& 31)) &&& 255)) 1 ((v_v >>> ((16 : Int32) &&& 31)) &&& 255)) 2 ((v_v >>> ((8 : Int32) &&& 31)) &&& 255)) 3 ((v_v >>> ((0 : Int32) &&& 31)) &&& 255))))] := hD
    refine lv_iinc (v := (-1)) (lv' := [(3, .int (-1)), (0, .ref a0), (1, .int v_v), (2, .int 4)]) hx hb dX4_append_37 hl (k := 0) rfl (by decide) (by decide) rfl (fun ls hl => ?_)
    refine lv_goto (tgt := 4) hx hb dX4_append_40 (by decide) ?_
    refine lv_iload_n hx hb dX4_append_4 rfl (lv_at hl 0 rfl) ?_
    refine lv_if_lt (tgt := 43) hx hb dX4_append_5 (by decide) (fun _ => ?_) (fun c => absurd (show (-1 : Int32) < 0 from by decide) c)
    refine W.widen (k := 0) (n := 0) (Nat.le_of_ble_eq_true rfl) (Nat.le_of_ble_eq_true rfl) ?_
    exact W.vret hx hb hr (fun t ht hW => ⟨⟨(upd (upd (upd (upd (fun _ => 0) 0 ((v_v >>> ((24 : Int32) &&& 31)) &&& 255)) 1 ((v_v >>> ((16 : Int32) &&& 31)) &&& 255)) 2 ((v_v >>> ((8 : Int32) &&& 31)) &&& 255)) 3 ((v_v >>> ((0 : Int32) &&& 31)) &&& 255)), rfl, trivial, ⟨by rw [ht]; exact hP.sub [0, 1] rfl, hD.sub [0, 1] (by decide) rfl⟩⟩, hS.F ht⟩) hS.2.2 dX4_append_43
def fX6_feed (v_a : Int32) (v_b : Int32) : Int32 :=
  if (fX6_within v_b 1 4) = 0 then (-2) else v_b
set_option maxHeartbeats 4000000 in
set_option maxRecDepth 100000 in
theorem c_X6_feed (l : Launch) (D : va_G) (E : Nat → ClassId) (G : Nat → Nat) (sz : Nat) (a0 : Nat) (v_a : Int32) (v_b : Int32) (a0_now : Nat) (a0_kept : Nat) (a0_ways : Nat) (a0_shelves : Nat) (a0_tape : Nat) (a0_reader : Nat) (a0_refusals : Nat) (a0_bestPack : Nat) (a0_tape_bytes : Nat) : Met l yX6_feed (oh_w yX6_feed cX6_feed 3 (some .int)) ({ frames := 2, cells := 0, slots := 0, locals := 44 }) (oh_Pm D E G [.ref a0, .int v_a, .int v_b] [(a0, .inr (6, [.ref a0_now, .ref a0_kept, .int 0, .ref a0_ways, .ref a0_shelves, .ref a0_tape, .ref a0_reader, .ref a0_refusals, .ref a0_bestPack])), (a0_tape, .inr (4, [.ref a0_tape_bytes, .int 0, .int (-1), .int 0, .int 0, .int 0])), (a0_tape_bytes, .inl (E 0, 250, .inl (fun _ => 0))), (a0_refusals, .inl (E 0, 5, .inl (fun _ => 0)))] sz) (va_Qi (fun r (_ : Unit) => r = fX6_feed v_a v_b) (oh_B D (va_A [(a0, .inr (6, [.ref a0_now, .ref a0_kept, .int 0, .ref a0_ways, .ref a0_shelves, .ref a0_tape, .ref a0_reader, .ref a0_refusals, .ref a0_bestPack])), (a0_tape, .inr (4, [.ref a0_tape_bytes, .int 0, .int (-1), .int 0, .int 0, .int 0])), (a0_tape_bytes, .inl (E 0, 250, .inl (fun _ => 0))), (a0_refusals, .inl (E 0, 5, .inl (fun _ => 0)))] sz) (fun _ => [])) (va_A [(a0, .inr (6, [.ref a0_now, .ref a0_kept, .int 0, .ref a0_ways, .ref a0_shelves, .ref a0_tape, .ref a0_reader, .ref a0_refusals, .ref a0_bestPack])), (a0_tape, .inr (4, [.ref a0_tape_bytes, .int 0, .int (-1), .int 0, .int 0, .int 0])), (a0_tape_bytes, .inl (E 0, 250, .inl (fun _ => 0))), (a0_refusals, .inl (E 0, 5, .inl (fun _ => 0)))] sz)) 0 0 (va_A [(a0, .inr (6, [.ref a0_now, .ref a0_kept, .int 0, .ref a0_ways, .ref a0_shelves, .ref a0_tape, .ref a0_reader, .ref a0_refusals, .ref a0_bestPack])), (a0_tape, .inr (4, [.ref a0_tape_bytes, .int 0, .int (-1), .int 0, .int 0, .int 0])), (a0_tape_bytes, .inl (E 0, 250, .inl (fun _ => 0))), (a0_refusals, .inl (E 0, 5, .inl (fun _ => 0)))] sz) := by
  refine Met.ofW (cc := cX6_feed) (maxL := 3) (ret := (some .int)) (by decide) rfl ?_
  intro p e s m args below meth c s₁ B hml hv
  obtain ⟨rfl, hsz, hP, hK, hD0, hG⟩ := hv
  have hx := B.exec
  have hb := B.bytes
  have hr := B.returns
  have hts := atoms_spec (ws := (oh_w yX6_feed cX6_feed 3 (some .int))) B.pre
  have htg : ∀ w ∈ oh_t, w.before _ s = true := fun w h => hts w (List.mem_cons_of_mem _ h)
  have hown : s.vm.findClass RX6 = some m.cls := findClass_of_methodNamed B.named
  have hlocks := B.notSynchronized
  subst hsz
  have hD := hD0.self (sz := s.heap.size)
  generalize hAe : va_A [(a0, .inr (6, [.ref a0_now, .ref a0_kept, .int 0, .ref a0_ways, .ref a0_shelves, .ref a0_tape, .ref a0_reader, .ref a0_refusals, .ref a0_bestPack])), (a0_tape, .inr (4, [.ref a0_tape_bytes, .int 0, .int (-1), .int 0, .int 0, .int 0])), (a0_tape_bytes, .inl (E 0, 250, .inl (fun _ => 0))), (a0_refusals, .inl (E 0, 5, .inl (fun _ => 0)))] s.heap.size = A at hD hG ⊢
  have hA : ∀ q : Nat, s.heap.size ≤ q → A q := fun q h => by rw [← hAe]; exact Or.inr h
  have hS : va_S A s.heap s.heap [] := va_S.rf
  have hP : va_P D vwCl [(a0, .inr (6, [.ref a0_now, .ref a0_kept, .int 0, .ref a0_ways, .ref a0_shelves, .ref a0_tape, .ref a0_reader, .ref a0_refusals, .ref a0_bestPack])), (a0_tape, .inr (4, [.ref a0_tape_bytes, .int 0, .int (-1), .int 0, .int 0, .int 0])), (a0_tape_bytes, .inl (E 0, 250, .inl (fun _ => 0))), (a0_refusals, .inl (E 0, 5, .inl (fun _ => 0)))] s.heap := hP
  have hl := lv_entry ([.ref a0, .int v_a, .int v_b]) (n := 3) (Nat.le_of_ble_eq_true rfl)
  rw [lg_entry_eq]
  generalize (lg_sl ([.ref a0, .int v_a, .int v_b]) ++ List.replicate (3 - (lg_sl ([.ref a0, .int v_a, .int v_b])).length) Slot.unset).toArray = ls at hl ⊢
  have hl : lv_has ls 3 [(0, .ref a0), (1, .int v_a), (2, .int v_b)] := hl
  refine lv_iload_n hx hb dX6_feed_0 rfl (lv_at hl 2 rfl) ?_
  refine lv_iconst (v := 1) hx hb dX6_feed_1 (by decide) ?_
  refine lv_iconst (v := 4) hx hb dX6_feed_2 (by decide) ?_
  refine oh_pS (As := [.int v_b, .int 1, .int 4]) (rest := []) (v := fX6_within v_b 1 4) ⟨hx, hb, hml, hown, htg⟩ (c_X6_within l D E G v_b 1 4) (va_cwS 3 htg (oh_gS q_293 q_294 q_66 q_295) rfl rfl rfl pdX6_within ⟨Nat.le_of_ble_eq_true rfl, Nat.le_of_ble_eq_true rfl⟩) hK (hP.sub (ws' := []) [] rfl) hG hS rfl hl.1 rfl (Nat.le_of_ble_eq_true rfl) dX6_feed_3 ⟨Nat.le_of_ble_eq_true rfl, Nat.le_of_ble_eq_true rfl⟩ ?_
  refine lv_if_ne (tgt := 16) hx hb dX6_feed_6 (by decide) (fun (c_1 : ¬ ((fX6_within v_b 1 4) = 0)) => ?_) (fun (c_1 : (fX6_within v_b 1 4) = 0) => ?_)
  · refine lv_aload_n hx hb dX6_feed_16 rfl (lv_at hl 0 rfl) ?_
    refine va_get (D := D) (ci := 6) (v := .ref a0_tape) (C := RX6) (T := TX6) (N := 9) hx hb htg ig_6 hown hK hP 0 rfl rfl 5 (by decide) (htg _ q_263) (fun _ h9 => h9) rfl dX6_feed_17 ?_
    refine va_get (D := D) (ci := 4) (v := .int 0) (C := RX4) (T := TX4) (N := 6) hx hb htg ig_4 hown hK hP 1 rfl rfl 1 (by decide) (htg _ q_219) (fun _ h9 => h9) rfl dX6_feed_20 ?_
    refine lv_iload_n hx hb dX6_feed_23 rfl (lv_at hl 2 rfl) ?_
    refine lv_iadd hx hb dX6_feed_24 ?_
    refine lv_sipush (v := 250) hx hb dX6_feed_25 (by decide) ?_
    refine lv_icmp_le (tgt := 38) hx hb dX6_feed_28 (by decide) (fun _ => ?_) (fun c => absurd (show (0 + v_b) ≤ 250 from oh_f250 c_1) c)
    refine lv_aload_n hx hb dX6_feed_38 rfl (lv_at hl 0 rfl) ?_
    refine va_get (D := D) (ci := 6) (v := .ref a0_tape) (C := RX6) (T := TX6) (N := 9) hx hb htg ig_6 hown hK hP 0 rfl rfl 5 (by decide) (htg _ q_263) (fun _ h9 => h9) rfl dX6_feed_39 ?_
    refine lv_iload_n hx hb dX6_feed_42 rfl (lv_at hl 1 rfl) ?_
    refine lv_iload_n hx hb dX6_feed_43 rfl (lv_at hl 2 rfl) ?_
    refine oh_mVv (As := [.int v_a, .int v_b]) (rest := []) (wr := [(a0, .inr (6, [.ref a0_now, .ref a0_kept, .int 0, .ref a0_ways, .ref a0_shelves, .ref a0_tape, .ref a0_reader, .ref a0_refusals, .ref a0_bestPack])), (a0_refusals, .inl (E 0, 5, .inl (fun _ => 0)))]) ⟨hx, hb, hml, hown, htg⟩ (c_X4_append l D E G s.heap.size a0_tape v_a v_b a0_tape_bytes (oh_f14 c_1)) (cwV 2 htg (oh_gV q_487 q_488 q_489 q_71 q_490) rfl rfl rfl pdVX4_append ⟨Nat.le_of_ble_eq_true rfl, Nat.le_of_ble_eq_true rfl⟩) hK hP hD hG hS hA [1, 2] [0, 3] rfl rfl (by decide) (by decide) (by decide) (va_recv hK hP (ci := 4) (q0 := 1) rfl rfl) rfl hl.1 rfl (Nat.le_of_ble_eq_true rfl) dX6_feed_44 ⟨Nat.le_of_ble_eq_true rfl, Nat.le_of_ble_eq_true rfl⟩ (fun u H locs hw hP hD hS => ?_)
    obtain ⟨hv_a0_bytes_1, rfl⟩ : ∃ z, z = u := ⟨_, rfl⟩
    have hP : va_P D vwCl [(a0, .inr (6, [.ref a0_now, .ref a0_kept, .int 0, .ref a0_ways, .ref a0_shelves, .ref a0_tape, .ref a0_reader, .ref a0_refusals, .ref a0_bestPack])), (a0_refusals, .inl (E 0, 5, .inl (fun _ => 0))), (a0_tape, .inr (4, [.ref a0_tape_bytes, .int v_b, .int (-1), .int 0, .int 0, .int 0])), (a0_tape_bytes, .inl (E 0, 250, .inl hv_a0_bytes_1))] H := hP
    have hD : va_D A [(a0, .inr (6, [.ref a0_now, .ref a0_kept, .int 0, .ref a0_ways, .ref a0_shelves, .ref a0_tape, .ref a0_reader, .ref a0_refusals, .ref a0_bestPack])), (a0_refusals, .inl (E 0, 5, .inl (fun _ => 0))), (a0_tape, .inr (4, [.ref a0_tape_bytes, .int v_b, .int (-1), .int 0, .int 0, .int 0])), (a0_tape_bytes, .inl (E 0, 250, .inl hv_a0_bytes_1))] := hD
    refine W.widen (k := 0) (n := 0) (Nat.le_refl _) (Nat.le_refl _) ?_
    refine lv_aload_n hx hb dX6_feed_47 rfl (lv_at hl 0 rfl) ?_
    refine va_get (D := D) (ci := 6) (v := .ref a0_tape) (C := RX6) (T := TX6) (N := 9) hx hb htg ig_6 hown hK hP 0 rfl rfl 5 (by decide) (htg _ q_263) (fun _ h9 => h9) rfl dX6_feed_48 ?_
    refine va_get (D := D) (ci := 4) (v := .int v_b) (C := RX4) (T := TX4) (N := 6) hx hb htg ig_4 hown hK hP 2 rfl rfl 1 (by decide) (htg _ q_219) (fun _ h9 => h9) rfl dX6_feed_51 ?_
    refine W.widen (k := 0) (n := 0) (Nat.le_of_ble_eq_true rfl) (Nat.le_of_ble_eq_true rfl) ?_
    exact W.iret (v := v_b) hx hb hr (fun t ht hW => ⟨⟨v_b, (), rfl, by unfold fX6_feed; rw [if_neg c_1], ⟨by rw [ht]; exact hP.sub [] rfl, hD.sub [] (by decide) rfl⟩⟩, hS.F ht⟩) hS.2.2 dX6_feed_54
  · refine lv_aload_n hx hb dX6_feed_9 rfl (lv_at hl 0 rfl) ?_
    refine lv_bipush (v := (-2)) hx hb dX6_feed_10 (by decide) ?_
    refine oh_mV (As := [.int (-2)]) (rest := []) (wr := [(a0_tape, .inr (4, [.ref a0_tape_bytes, .int 0, .int (-1), .int 0, .int 0, .int 0])), (a0_tape_bytes, .inl (E 0, 250, .inl (fun _ => 0)))]) ⟨hx, hb, hml, hown, htg⟩ (c_X6_refuse l D E G s.heap.size a0 (-2) a0_now a0_kept a0_ways a0_shelves a0_tape a0_reader a0_refusals a0_bestPack) (cwV 1 htg (oh_gV q_296 q_298 q_0 q_66 q_299) rfl rfl rfl pdVX6_refuse ⟨Nat.le_of_ble_eq_true rfl, Nat.le_of_ble_eq_true rfl⟩) hK hP hD hG hS hA [0, 3] [1, 2] rfl rfl (by decide) (by decide) (by decide) (va_recv hK hP (ci := 6) (q0 := 0) rfl rfl) rfl hl.1 rfl (Nat.le_of_ble_eq_true rfl) dX6_feed_12 ⟨Nat.le_of_ble_eq_true rfl, Nat.le_of_ble_eq_true rfl⟩ (fun r_2 u H locs hw hP hD hS => ?_)
    subst hw
    have hP : va_P D vwCl [(a0_tape, .inr (4, [.ref a0_tape_bytes, .int 0, .int (-1), .int 0, .int 0, .int 0])), (a0_tape_bytes, .inl (E 0, 250, .inl (fun _ => 0))), (a0, .inr (6, [.ref a0_now, .ref a0_kept, .int 0, .ref a0_ways, .ref a0_shelves, .ref a0_tape, .ref a0_reader, .ref a0_refusals, .ref a0_bestPack]))] H := hP
    have hD : va_D A [(a0_tape, .inr (4, [.ref a0_tape_bytes, .int 0, .int (-1), .int 0, .int 0, .int 0])), (a0_tape_bytes, .inl (E 0, 250, .inl (fun _ => 0))), (a0, .inr (6, [.ref a0_now, .ref a0_kept, .int 0, .ref a0_ways, .ref a0_shelves, .ref a0_tape, .ref a0_reader, .ref a0_refusals, .ref a0_bestPack]))] := hD
    refine W.widen (k := 0) (n := 0) (Nat.le_refl _) (Nat.le_refl _) ?_
    refine W.widen (k := 0) (n := 0) (Nat.le_of_ble_eq_true rfl) (Nat.le_of_ble_eq_true rfl) ?_
    exact W.iret (v := (-2)) hx hb hr (fun t ht hW => ⟨⟨(-2), (), rfl, by unfold fX6_feed; rw [if_pos c_1], ⟨by rw [ht]; exact hP.sub [] rfl, hD.sub [] (by decide) rfl⟩⟩, hS.F ht⟩) hS.2.2 dX6_feed_15
set_option maxHeartbeats 4000000 in
set_option maxRecDepth 100000 in
theorem c_X4_advance (l : Launch) (D : va_G) (E : Nat → ClassId) (G : Nat → Nat) (sz : Nat) (a0 : Nat) (a0_bytes : Nat) : Met l yX4_advance (oh_w yX4_advance cX4_advance 1 none) ({ frames := 0, cells := 0, slots := 0, locals := 0 }) (oh_Pm D E G [.ref a0] [(a0, .inr (4, [.ref a0_bytes, .int 0, .int (-1), .int 0, .int 0, .int 0]))] sz) (va_Qv (fun (_ : Unit) => True) (oh_B D (va_A [(a0, .inr (4, [.ref a0_bytes, .int 0, .int (-1), .int 0, .int 0, .int 0]))] sz) (fun _ => [(a0, .inr (4, [.ref a0_bytes, .int 0, .int (-1), .int 0, .int 0, .int 0]))])) (va_A [(a0, .inr (4, [.ref a0_bytes, .int 0, .int (-1), .int 0, .int 0, .int 0]))] sz)) 0 0 (va_A [(a0, .inr (4, [.ref a0_bytes, .int 0, .int (-1), .int 0, .int 0, .int 0]))] sz) := by
  refine Met.ofW (cc := cX4_advance) (maxL := 1) (ret := none) (by decide) rfl ?_
  intro p e s m args below meth c s₁ B hml hv
  obtain ⟨rfl, hsz, hP, hK, hD0, hG⟩ := hv
  have hx := B.exec
  have hb := B.bytes
  have hr := B.returns
  have hts := atoms_spec (ws := (oh_w yX4_advance cX4_advance 1 none)) B.pre
  have htg : ∀ w ∈ oh_t, w.before _ s = true := fun w h => hts w (List.mem_cons_of_mem _ h)
  have hown : s.vm.findClass RX4 = some m.cls := findClass_of_methodNamed B.named
  have hlocks := B.notSynchronized
  subst hsz
  have hD := hD0.self (sz := s.heap.size)
  generalize hAe : va_A [(a0, .inr (4, [.ref a0_bytes, .int 0, .int (-1), .int 0, .int 0, .int 0]))] s.heap.size = A at hD hG ⊢
  have hA : ∀ q : Nat, s.heap.size ≤ q → A q := fun q h => by rw [← hAe]; exact Or.inr h
  have hS : va_S A s.heap s.heap [] := va_S.rf
  have hP : va_P D vwCl [(a0, .inr (4, [.ref a0_bytes, .int 0, .int (-1), .int 0, .int 0, .int 0]))] s.heap := hP
  have hl := lv_entry ([.ref a0]) (n := 1) (Nat.le_of_ble_eq_true rfl)
  rw [lg_entry_eq]
  generalize (lg_sl ([.ref a0]) ++ List.replicate (1 - (lg_sl ([.ref a0])).length) Slot.unset).toArray = ls at hl ⊢
  have hl : lv_has ls 1 [(0, .ref a0)] := hl
  refine lv_aload_n hx hb dX4_advance_0 rfl (lv_at hl 0 rfl) ?_
  refine lv_aload_n hx hb dX4_advance_1 rfl (lv_at hl 0 rfl) ?_
  refine va_get (D := D) (ci := 4) (v := .int 0) (C := RX4) (T := TX4) (N := 6) hx hb htg ig_4 hown hK hP 0 rfl rfl 5 (by decide) (htg _ q_224) (fun _ h9 => h9) rfl dX4_advance_2 ?_
  refine va_put (D := D) (ci := 4) (v := .int 0) (ty := .int) (C := RX4) (T := TX4) (N := 6) hx hb htg ig_4 tyX4 tyX4_ok nmX4 hown hK hP hD hS 0 rfl rfl 4 (by decide) (htg _ q_223) (fun _ h9 => h9) rfl (by decide +kernel) rfl rfl (Nat.le_of_ble_eq_true rfl) dX4_advance_5 (fun H locs hP hD hS => ?_)
  have hP : va_P D vwCl [(a0, .inr (4, [.ref a0_bytes, .int 0, .int (-1), .int 0, .int 0, .int 0]))] H := hP
  have hD : va_D A [(a0, .inr (4, [.ref a0_bytes, .int 0, .int (-1), .int 0, .int 0, .int 0]))] := hD
  refine lv_aload_n hx hb dX4_advance_8 rfl (lv_at hl 0 rfl) ?_
  refine va_get (D := D) (ci := 4) (v := .int 0) (C := RX4) (T := TX4) (N := 6) hx hb htg ig_4 hown hK hP 0 rfl rfl 4 (by decide) (htg _ q_223) (fun _ h9 => h9) rfl dX4_advance_9 ?_
  refine lv_aload_n hx hb dX4_advance_12 rfl (lv_at hl 0 rfl) ?_
  refine va_get (D := D) (ci := 4) (v := .int 0) (C := RX4) (T := TX4) (N := 6) hx hb htg ig_4 hown hK hP 0 rfl rfl 1 (by decide) (htg _ q_218) (fun _ h9 => h9) rfl dX4_advance_13 ?_
  refine lv_icmp_ge (tgt := 46) hx hb dX4_advance_16 (by decide) (fun _ => ?_) (fun c => absurd (show 0 ≤ (0 : Int32) from by decide) c)
  refine lv_aload_n hx hb dX4_advance_46 rfl (lv_at hl 0 rfl) ?_
  refine lv_aload_n hx hb dX4_advance_47 rfl (lv_at hl 0 rfl) ?_
  refine va_get (D := D) (ci := 4) (v := .int 0) (C := RX4) (T := TX4) (N := 6) hx hb htg ig_4 hown hK hP 0 rfl rfl 4 (by decide) (htg _ q_223) (fun _ h9 => h9) rfl dX4_advance_48 ?_
  refine va_put (D := D) (ci := 4) (v := .int 0) (ty := .int) (C := RX4) (T := TX4) (N := 6) hx hb htg ig_4 tyX4 tyX4_ok nmX4 hown hK hP hD hS 0 rfl rfl 5 (by decide) (htg _ q_224) (fun _ h9 => h9) rfl (by decide +kernel) rfl rfl (Nat.le_of_ble_eq_true rfl) dX4_advance_51 (fun H locs hP hD hS => ?_)
  have hP : va_P D vwCl [(a0, .inr (4, [.ref a0_bytes, .int 0, .int (-1), .int 0, .int 0, .int 0]))] H := hP
  have hD : va_D A [(a0, .inr (4, [.ref a0_bytes, .int 0, .int (-1), .int 0, .int 0, .int 0]))] := hD
  refine lv_aload_n hx hb dX4_advance_54 rfl (lv_at hl 0 rfl) ?_
  refine va_get (D := D) (ci := 4) (v := .int 0) (C := RX4) (T := TX4) (N := 6) hx hb htg ig_4 hown hK hP 0 rfl rfl 5 (by decide) (htg _ q_224) (fun _ h9 => h9) rfl dX4_advance_55 ?_
  refine lv_aload_n hx hb dX4_advance_58 rfl (lv_at hl 0 rfl) ?_
  refine va_get (D := D) (ci := 4) (v := .int 0) (C := RX4) (T := TX4) (N := 6) hx hb htg ig_4 hown hK hP 0 rfl rfl 1 (by decide) (htg _ q_218) (fun _ h9 => h9) rfl dX4_advance_59 ?_
  refine lv_icmp_ge (tgt := 106) hx hb dX4_advance_62 (by decide) (fun _ => ?_) (fun c => absurd (show 0 ≤ (0 : Int32) from by decide) c)
  refine lv_aload_n hx hb dX4_advance_106 rfl (lv_at hl 0 rfl) ?_
  refine va_get (D := D) (ci := 4) (v := .int 0) (C := RX4) (T := TX4) (N := 6) hx hb htg ig_4 hown hK hP 0 rfl rfl 5 (by decide) (htg _ q_224) (fun _ h9 => h9) rfl dX4_advance_107 ?_
  refine lv_aload_n hx hb dX4_advance_110 rfl (lv_at hl 0 rfl) ?_
  refine va_get (D := D) (ci := 4) (v := .int 0) (C := RX4) (T := TX4) (N := 6) hx hb htg ig_4 hown hK hP 0 rfl rfl 4 (by decide) (htg _ q_223) (fun _ h9 => h9) rfl dX4_advance_111 ?_
  refine lv_icmp_le (tgt := 123) hx hb dX4_advance_114 (by decide) (fun _ => ?_) (fun c => absurd (show (0 : Int32) ≤ 0 from by decide) c)
  refine lv_aload_n hx hb dX4_advance_123 rfl (lv_at hl 0 rfl) ?_
  refine va_get (D := D) (ci := 4) (v := .int 0) (C := RX4) (T := TX4) (N := 6) hx hb htg ig_4 hown hK hP 0 rfl rfl 5 (by decide) (htg _ q_224) (fun _ h9 => h9) rfl dX4_advance_124 ?_
  refine lv_aload_n hx hb dX4_advance_127 rfl (lv_at hl 0 rfl) ?_
  refine va_get (D := D) (ci := 4) (v := .int 0) (C := RX4) (T := TX4) (N := 6) hx hb htg ig_4 hown hK hP 0 rfl rfl 1 (by decide) (htg _ q_218) (fun _ h9 => h9) rfl dX4_advance_128 ?_
  refine lv_icmp_ge (tgt := 175) hx hb dX4_advance_131 (by decide) (fun _ => ?_) (fun c => absurd (show 0 ≤ (0 : Int32) from by decide) c)
  refine lv_aload_n hx hb dX4_advance_175 rfl (lv_at hl 0 rfl) ?_
  refine va_get (D := D) (ci := 4) (v := .int 0) (C := RX4) (T := TX4) (N := 6) hx hb htg ig_4 hown hK hP 0 rfl rfl 5 (by decide) (htg _ q_224) (fun _ h9 => h9) rfl dX4_advance_176 ?_
  refine lv_aload_n hx hb dX4_advance_179 rfl (lv_at hl 0 rfl) ?_
  refine va_get (D := D) (ci := 4) (v := .int 0) (C := RX4) (T := TX4) (N := 6) hx hb htg ig_4 hown hK hP 0 rfl rfl 4 (by decide) (htg _ q_223) (fun _ h9 => h9) rfl dX4_advance_180 ?_
  refine lv_icmp_le (tgt := 192) hx hb dX4_advance_183 (by decide) (fun _ => ?_) (fun c => absurd (show (0 : Int32) ≤ 0 from by decide) c)
  refine lv_aload_n hx hb dX4_advance_192 rfl (lv_at hl 0 rfl) ?_
  refine va_get (D := D) (ci := 4) (v := .int 0) (C := RX4) (T := TX4) (N := 6) hx hb htg ig_4 hown hK hP 0 rfl rfl 4 (by decide) (htg _ q_223) (fun _ h9 => h9) rfl dX4_advance_193 ?_
  refine lv_aload_n hx hb dX4_advance_196 rfl (lv_at hl 0 rfl) ?_
  refine va_get (D := D) (ci := 4) (v := .int 0) (C := RX4) (T := TX4) (N := 6) hx hb htg ig_4 hown hK hP 0 rfl rfl 1 (by decide) (htg _ q_218) (fun _ h9 => h9) rfl dX4_advance_197 ?_
  refine lv_icmp_lt (tgt := 209) hx hb dX4_advance_200 (by decide) (fun c => absurd c (show ¬ ((0 : Int32) < 0) from by decide)) (fun _ => ?_)
  refine lv_aload_n hx hb dX4_advance_203 rfl (lv_at hl 0 rfl) ?_
  refine lv_iconst (v := 0) hx hb dX4_advance_204 (by decide) ?_
  refine va_put (D := D) (ci := 4) (v := .int 0) (ty := .int) (C := RX4) (T := TX4) (N := 6) hx hb htg ig_4 tyX4 tyX4_ok nmX4 hown hK hP hD hS 0 rfl rfl 3 (by decide) (htg _ q_222) (fun _ h9 => h9) rfl (by decide +kernel) rfl rfl (Nat.le_of_ble_eq_true rfl) dX4_advance_205 (fun H locs hP hD hS => ?_)
  have hP : va_P D vwCl [(a0, .inr (4, [.ref a0_bytes, .int 0, .int (-1), .int 0, .int 0, .int 0]))] H := hP
  have hD : va_D A [(a0, .inr (4, [.ref a0_bytes, .int 0, .int (-1), .int 0, .int 0, .int 0]))] := hD
  refine W.widen (k := 0) (n := 0) (Nat.le_of_ble_eq_true rfl) (Nat.le_of_ble_eq_true rfl) ?_
  exact W.vret hx hb hr (fun t ht hW => ⟨⟨(), rfl, trivial, ⟨by rw [ht]; exact hP.sub [0] rfl, hD.sub [0] (by decide) rfl⟩⟩, hS.F ht⟩) hS.2.2 dX4_advance_208
