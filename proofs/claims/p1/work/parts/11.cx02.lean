set_option maxHeartbeats 4000000 in
set_option maxRecDepth 100000 in
theorem c_X4_init (l : Launch) (D : va_G) (E : Nat → ClassId) (G : Nat → Nat) (sz : Nat) (a0 : Nat) : Met l yX4_init (oh_w yX4_init cX4_init 1 none) ({ frames := 1, cells := 1, slots := 250, locals := 12 }) (oh_Pm D E G [.ref a0] [(a0, .inr (4, [.null, .int 0, .int 0, .int 0, .int 0, .int 0]))] sz) (va_Qv (fun (_ : Nat) => True) (oh_B D (va_A [(a0, .inr (4, [.null, .int 0, .int 0, .int 0, .int 0, .int 0]))] sz) (fun q8 => [(a0, .inr (4, [.ref q8, .int 0, .int (-1), .int 0, .int 0, .int 0])), (q8, .inl (E 0, 250, .inl (fun _ => 0)))])) (va_A [(a0, .inr (4, [.null, .int 0, .int 0, .int 0, .int 0, .int 0]))] sz)) 1 250 (va_A [(a0, .inr (4, [.null, .int 0, .int 0, .int 0, .int 0, .int 0]))] sz) := by
  refine Met.ofW (cc := cX4_init) (maxL := 1) (ret := none) (by decide) rfl ?_
  intro p e s m args below meth c s₁ B hml hv
  obtain ⟨rfl, hsz, hP, hK, hD0, hG⟩ := hv
  have hx := B.exec
  have hb := B.bytes
  have hr := B.returns
  have hts := atoms_spec (ws := (oh_w yX4_init cX4_init 1 none)) B.pre
  have htg : ∀ w ∈ oh_t, w.before _ s = true := fun w h => hts w (List.mem_cons_of_mem _ h)
  have hown : s.vm.findClass RX4 = some m.cls := findClass_of_methodNamed B.named
  have hlocks := B.notSynchronized
  have hin : meth.name = "<init>" := (name_of_methodNamed B.named B.method).1
  subst hsz
  have hD := hD0.self (sz := s.heap.size)
  generalize hAe : va_A [(a0, .inr (4, [.null, .int 0, .int 0, .int 0, .int 0, .int 0]))] s.heap.size = A at hD hG ⊢
  have hA : ∀ q : Nat, s.heap.size ≤ q → A q := fun q h => by rw [← hAe]; exact Or.inr h
  have hS : va_S A s.heap s.heap [] := va_S.rf
  have hP : va_P D vwCl [(a0, .inr (4, [.null, .int 0, .int 0, .int 0, .int 0, .int 0]))] s.heap := hP
  have hl := lv_entry ([.ref a0]) (n := 1) (Nat.le_of_ble_eq_true rfl)
  rw [lg_entry_eq]
  generalize (lg_sl ([.ref a0]) ++ List.replicate (1 - (lg_sl ([.ref a0])).length) Slot.unset).toArray = ls at hl ⊢
  have hl : lv_has ls 1 [(0, .ref a0)] := hl
  refine lv_aload_n hx hb dX4_init_0 rfl (lv_at hl 0 rfl) ?_
  refine W.objInit hx hb hown (htg _ q_216) (htg _ q_87) (htg _ q_88) rfl (by rw [hml]; exact hl.1) rfl dX4_init_1 (Nat.le_of_ble_eq_true rfl) (Nat.le_of_ble_eq_true rfl) ?_
  refine W.eq (g2 := F0 m 4 ls []) rfl ?_
  refine lv_aload_n hx hb dX4_init_4 rfl (lv_at hl 0 rfl) ?_
  refine lv_sipush (v := 250) hx hb dX4_init_5 (by decide) ?_
  refine va_newa (atype := .int) (N' := 250) (a0 := (250, .inl (fun _ => 0))) hx hb (htg _ q_132) rfl hK hP hD hS hA (fun _ => oh_new_i _ _) (by decide +kernel) (by decide +kernel) (by decide +kernel) (show 1 ≤ 1 from Nat.le_of_ble_eq_true rfl) (show 250 ≤ 250 from Nat.le_of_ble_eq_true rfl) dX4_init_8 (fun q8 cA H hK2 hP hD hS => ?_)
  have ec : cA = E 0 := oh_same hK2 (i := 4) (j := 0) rfl rfl (by intro C h; cases h)
  subst ec
  have hP : va_P D vwCl [(a0, .inr (4, [.null, .int 0, .int 0, .int 0, .int 0, .int 0])), (q8, .inl (E 0, 250, .inl (fun _ => 0)))] H := hP
  have hD : va_D A [(a0, .inr (4, [.null, .int 0, .int 0, .int 0, .int 0, .int 0])), (q8, .inl (E 0, 250, .inl (fun _ => 0)))] := hD
  refine W.widen (k := 1) (n := 250) (Nat.le_refl _) (Nat.le_refl _) ?_
  refine va_putF (D := D) (ci := 4) (v := .ref q8) (ty := (.array .int)) (C := RX4) (T := TX4) (N := 6) hx hb htg ig_4 tyX4 tyX4_ok nmX4 hown hK hP hD hS 0 rfl rfl 0 (by decide) (htg _ q_217) (fun _ h9 => h9) rfl hin rfl (by decide +kernel) rfl rfl (Nat.le_of_ble_eq_true rfl) dX4_init_10 (fun H locs hP hD hS => ?_)
  have hP : va_P D vwCl [(a0, .inr (4, [.ref q8, .int 0, .int 0, .int 0, .int 0, .int 0])), (q8, .inl (E 0, 250, .inl (fun _ => 0)))] H := hP
  have hD : va_D A [(a0, .inr (4, [.ref q8, .int 0, .int 0, .int 0, .int 0, .int 0])), (q8, .inl (E 0, 250, .inl (fun _ => 0)))] := hD
  refine lv_aload_n hx hb dX4_init_13 rfl (lv_at hl 0 rfl) ?_
  refine lv_iconst (v := 0) hx hb dX4_init_14 (by decide) ?_
  refine va_put (D := D) (ci := 4) (v := .int 0) (ty := .int) (C := RX4) (T := TX4) (N := 6) hx hb htg ig_4 tyX4 tyX4_ok nmX4 hown hK hP hD hS 0 rfl rfl 1 (by decide) (htg _ q_218) (fun _ h9 => h9) rfl (by decide +kernel) rfl rfl (Nat.le_of_ble_eq_true rfl) dX4_init_15 (fun H locs hP hD hS => ?_)
  have hP : va_P D vwCl [(a0, .inr (4, [.ref q8, .int 0, .int 0, .int 0, .int 0, .int 0])), (q8, .inl (E 0, 250, .inl (fun _ => 0)))] H := hP
  have hD : va_D A [(a0, .inr (4, [.ref q8, .int 0, .int 0, .int 0, .int 0, .int 0])), (q8, .inl (E 0, 250, .inl (fun _ => 0)))] := hD
  refine lv_aload_n hx hb dX4_init_18 rfl (lv_at hl 0 rfl) ?_
  refine lv_iconst (v := (-1)) hx hb dX4_init_19 (by decide) ?_
  refine va_put (D := D) (ci := 4) (v := .int (-1)) (ty := .int) (C := RX4) (T := TX4) (N := 6) hx hb htg ig_4 tyX4 tyX4_ok nmX4 hown hK hP hD hS 0 rfl rfl 2 (by decide) (htg _ q_220) (fun _ h9 => h9) rfl (by decide +kernel) rfl rfl (Nat.le_of_ble_eq_true rfl) dX4_init_20 (fun H locs hP hD hS => ?_)
  have hP : va_P D vwCl [(a0, .inr (4, [.ref q8, .int 0, .int (-1), .int 0, .int 0, .int 0])), (q8, .inl (E 0, 250, .inl (fun _ => 0)))] H := hP
  have hD : va_D A [(a0, .inr (4, [.ref q8, .int 0, .int (-1), .int 0, .int 0, .int 0])), (q8, .inl (E 0, 250, .inl (fun _ => 0)))] := hD
  refine W.widen (k := 1) (n := 250) (show 1 ≤ 1 from Nat.le_of_ble_eq_true rfl) (show 250 ≤ 250 from Nat.le_of_ble_eq_true rfl) ?_
  exact W.vret hx hb hr (fun t ht hW => ⟨⟨q8, rfl, trivial, ⟨by rw [ht]; exact hP.sub [0, 1] rfl, hD.sub [0, 1] (by decide) rfl⟩⟩, hS.F ht⟩) hS.2.2 dX4_init_23
