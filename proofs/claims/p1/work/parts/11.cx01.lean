set_option maxHeartbeats 4000000 in
set_option maxRecDepth 100000 in
theorem c_X0_init (l : Launch) (D : va_G) (E : Nat → ClassId) (G : Nat → Nat) (sz : Nat) (a0 : Nat) : Met l yX0_init (oh_w yX0_init cX0_init 1 none) ({ frames := 1, cells := 7, slots := 367, locals := 12 }) (oh_Pm D E G [.ref a0] [(a0, .inr (0, [.null, .null, .null, .null, .null, .null, .null, .int 0]))] sz) (va_Qv (fun (_ : (Nat × Nat × Nat × Nat × Nat × Nat × Nat)) => True) (oh_B D (va_A [(a0, .inr (0, [.null, .null, .null, .null, .null, .null, .null, .int 0]))] sz) (fun u => match u with | (q9, q23, q37, q50, q63, q70, q93) => [(a0, .inr (0, [.ref q9, .ref q23, .ref q37, .ref q50, .ref q63, .ref q70, .ref q93, .int 0])), (q9, .inl (E 0, 4, .inl (fun _ => 0))), (q23, .inl (E 0, 168, .inl (fun _ => 0))), (q37, .inl (E 0, 160, .inl (fun _ => 0))), (q50, .inl (E 0, 15, .inl (fun _ => 0))), (q63, .inl (E 0, 10, .inl (fun _ => 0))), (q70, .inl (E 0, 3, .inl (upd (upd (fun _ => 0) 0 100) 1 2))), (q93, .inl (E 0, 7, .inl (fun _ => 0)))])) (va_A [(a0, .inr (0, [.null, .null, .null, .null, .null, .null, .null, .int 0]))] sz)) 7 367 (va_A [(a0, .inr (0, [.null, .null, .null, .null, .null, .null, .null, .int 0]))] sz) := by
  refine Met.ofW (cc := cX0_init) (maxL := 1) (ret := none) (by decide) rfl ?_
  intro p e s m args below meth c s₁ B hml hv
  obtain ⟨rfl, hsz, hP, hK, hD0, hG⟩ := hv
  have hx := B.exec
  have hb := B.bytes
  have hr := B.returns
  have hts := atoms_spec (ws := (oh_w yX0_init cX0_init 1 none)) B.pre
  have htg : ∀ w ∈ oh_t, w.before _ s = true := fun w h => hts w (List.mem_cons_of_mem _ h)
  have hown : s.vm.findClass RX0 = some m.cls := findClass_of_methodNamed B.named
  have hlocks := B.notSynchronized
  have hin : meth.name = "<init>" := (name_of_methodNamed B.named B.method).1
  subst hsz
  have hD := hD0.self (sz := s.heap.size)
  generalize hAe : va_A [(a0, .inr (0, [.null, .null, .null, .null, .null, .null, .null, .int 0]))] s.heap.size = A at hD hG ⊢
  have hA : ∀ q : Nat, s.heap.size ≤ q → A q := fun q h => by rw [← hAe]; exact Or.inr h
  have hS : va_S A s.heap s.heap [] := va_S.rf
  have hP : va_P D vwCl [(a0, .inr (0, [.null, .null, .null, .null, .null, .null, .null, .int 0]))] s.heap := hP
  have hl := lv_entry ([.ref a0]) (n := 1) (Nat.le_of_ble_eq_true rfl)
  rw [lg_entry_eq]
  generalize (lg_sl ([.ref a0]) ++ List.replicate (1 - (lg_sl ([.ref a0])).length) Slot.unset).toArray = ls at hl ⊢
  have hl : lv_has ls 1 [(0, .ref a0)] := hl
  refine lv_aload_n hx hb dX0_init_0 rfl (lv_at hl 0 rfl) ?_
  refine W.objInit hx hb hown (htg _ q_94) (htg _ q_87) (htg _ q_88) rfl (by rw [hml]; exact hl.1) rfl dX0_init_1 (Nat.le_of_ble_eq_true rfl) (Nat.le_of_ble_eq_true rfl) ?_
  refine W.eq (g2 := F0 m 4 ls []) rfl ?_
  refine lv_aload_n hx hb dX0_init_4 rfl (lv_at hl 0 rfl) ?_
  refine va_getsN hx hb hG.2.2.2.1.1 hS hown (va_Nw.use rfl (hG.2.1 ("OneHeavyLoad$Land", 9, "OneHeavyLoad", "ROOM", "[I", "OneHeavyLoad") (List.mem_of_getElem? (i := 0) rfl))) (fun _ h9 => h9) dX0_init_5 ?_
  refine va_tlen (v := 4) hx hb hG.2.2.2.1.2 hS (by decide) dX0_init_8 ?_
  refine va_newa (atype := .int) (N' := 4) (a0 := (4, .inl (fun _ => 0))) hx hb (htg _ q_132) rfl hK hP hD hS hA (fun _ => oh_new_i _ _) (by decide +kernel) (by decide +kernel) (by decide +kernel) (show 1 ≤ 7 from Nat.le_of_ble_eq_true rfl) (show 4 ≤ 367 from Nat.le_of_ble_eq_true rfl) dX0_init_9 (fun q9 cA H hK2 hP hD hS => ?_)
  have ec : cA = E 0 := oh_same hK2 (i := 4) (j := 0) rfl rfl (by intro C h; cases h)
  subst ec
  have hP : va_P D vwCl [(a0, .inr (0, [.null, .null, .null, .null, .null, .null, .null, .int 0])), (q9, .inl (E 0, 4, .inl (fun _ => 0)))] H := hP
  have hD : va_D A [(a0, .inr (0, [.null, .null, .null, .null, .null, .null, .null, .int 0])), (q9, .inl (E 0, 4, .inl (fun _ => 0)))] := hD
  refine W.widen (k := 1) (n := 4) (Nat.le_refl _) (Nat.le_refl _) ?_
  refine va_putF (D := D) (ci := 0) (v := .ref q9) (ty := (.array .int)) (C := RX0) (T := TX0) (N := 8) hx hb htg ig_0 tyX0 tyX0_ok nmX0 hown hK hP hD hS 0 rfl rfl 0 (by decide) (htg _ q_97) (fun _ h9 => h9) rfl hin rfl (by decide +kernel) rfl rfl (Nat.le_of_ble_eq_true rfl) dX0_init_11 (fun H locs hP hD hS => ?_)
  have hP : va_P D vwCl [(a0, .inr (0, [.ref q9, .null, .null, .null, .null, .null, .null, .int 0])), (q9, .inl (E 0, 4, .inl (fun _ => 0)))] H := hP
  have hD : va_D A [(a0, .inr (0, [.ref q9, .null, .null, .null, .null, .null, .null, .int 0])), (q9, .inl (E 0, 4, .inl (fun _ => 0)))] := hD
  refine lv_aload_n hx hb dX0_init_14 rfl (lv_at hl 0 rfl) ?_
  refine va_getsN hx hb hG.2.2.2.1.1 hS hown (va_Nw.use rfl (hG.2.1 ("OneHeavyLoad$Land", 9, "OneHeavyLoad", "ROOM", "[I", "OneHeavyLoad") (List.mem_of_getElem? (i := 0) rfl))) (fun _ h9 => h9) dX0_init_15 ?_
  refine lv_iconst (v := 0) hx hb dX0_init_18 (by decide) ?_
  refine va_ti (v := .int 24) hx hb hG.2.2.2.1.2 hS (show vp_in 0 4 by unfold vp_in; decide) (by decide) dX0_init_19 ?_
  refine lv_bipush (v := 7) hx hb dX0_init_20 (by decide) ?_
  refine lv_imul hx hb dX0_init_22 ?_
  refine oh_nrm (v := 168) (by decide) ?_
  refine va_newa (atype := .int) (N' := 168) (a0 := (168, .inl (fun _ => 0))) hx hb (htg _ q_132) rfl hK hP hD hS hA (fun _ => oh_new_i _ _) (by decide +kernel) (by decide +kernel) (by decide +kernel) (show 2 ≤ 7 from Nat.le_of_ble_eq_true rfl) (show 172 ≤ 367 from Nat.le_of_ble_eq_true rfl) dX0_init_23 (fun q23 cA H hK2 hP hD hS => ?_)
  have ec : cA = E 0 := oh_same hK2 (i := 4) (j := 0) rfl rfl (by intro C h; cases h)
  subst ec
  have hP : va_P D vwCl [(a0, .inr (0, [.ref q9, .null, .null, .null, .null, .null, .null, .int 0])), (q9, .inl (E 0, 4, .inl (fun _ => 0))), (q23, .inl (E 0, 168, .inl (fun _ => 0)))] H := hP
  have hD : va_D A [(a0, .inr (0, [.ref q9, .null, .null, .null, .null, .null, .null, .int 0])), (q9, .inl (E 0, 4, .inl (fun _ => 0))), (q23, .inl (E 0, 168, .inl (fun _ => 0)))] := hD
  refine W.widen (k := 2) (n := 172) (Nat.le_refl _) (Nat.le_refl _) ?_
  refine va_putF (D := D) (ci := 0) (v := .ref q23) (ty := (.array .int)) (C := RX0) (T := TX0) (N := 8) hx hb htg ig_0 tyX0 tyX0_ok nmX0 hown hK hP hD hS 0 rfl rfl 1 (by decide) (htg _ q_101) (fun _ h9 => h9) rfl hin rfl (by decide +kernel) rfl rfl (Nat.le_of_ble_eq_true rfl) dX0_init_25 (fun H locs hP hD hS => ?_)
  have hP : va_P D vwCl [(a0, .inr (0, [.ref q9, .ref q23, .null, .null, .null, .null, .null, .int 0])), (q9, .inl (E 0, 4, .inl (fun _ => 0))), (q23, .inl (E 0, 168, .inl (fun _ => 0)))] H := hP
  have hD : va_D A [(a0, .inr (0, [.ref q9, .ref q23, .null, .null, .null, .null, .null, .int 0])), (q9, .inl (E 0, 4, .inl (fun _ => 0))), (q23, .inl (E 0, 168, .inl (fun _ => 0)))] := hD
  refine lv_aload_n hx hb dX0_init_28 rfl (lv_at hl 0 rfl) ?_
  refine va_getsN hx hb hG.2.2.2.1.1 hS hown (va_Nw.use rfl (hG.2.1 ("OneHeavyLoad$Land", 9, "OneHeavyLoad", "ROOM", "[I", "OneHeavyLoad") (List.mem_of_getElem? (i := 0) rfl))) (fun _ h9 => h9) dX0_init_29 ?_
  refine lv_iconst (v := 1) hx hb dX0_init_32 (by decide) ?_
  refine va_ti (v := .int 16) hx hb hG.2.2.2.1.2 hS (show vp_in 1 4 by unfold vp_in; decide) (by decide) dX0_init_33 ?_
  refine lv_bipush (v := 10) hx hb dX0_init_34 (by decide) ?_
  refine lv_imul hx hb dX0_init_36 ?_
  refine oh_nrm (v := 160) (by decide) ?_
  refine va_newa (atype := .int) (N' := 160) (a0 := (160, .inl (fun _ => 0))) hx hb (htg _ q_132) rfl hK hP hD hS hA (fun _ => oh_new_i _ _) (by decide +kernel) (by decide +kernel) (by decide +kernel) (show 3 ≤ 7 from Nat.le_of_ble_eq_true rfl) (show 332 ≤ 367 from Nat.le_of_ble_eq_true rfl) dX0_init_37 (fun q37 cA H hK2 hP hD hS => ?_)
  have ec : cA = E 0 := oh_same hK2 (i := 4) (j := 0) rfl rfl (by intro C h; cases h)
  subst ec
  have hP : va_P D vwCl [(a0, .inr (0, [.ref q9, .ref q23, .null, .null, .null, .null, .null, .int 0])), (q9, .inl (E 0, 4, .inl (fun _ => 0))), (q23, .inl (E 0, 168, .inl (fun _ => 0))), (q37, .inl (E 0, 160, .inl (fun _ => 0)))] H := hP
  have hD : va_D A [(a0, .inr (0, [.ref q9, .ref q23, .null, .null, .null, .null, .null, .int 0])), (q9, .inl (E 0, 4, .inl (fun _ => 0))), (q23, .inl (E 0, 168, .inl (fun _ => 0))), (q37, .inl (E 0, 160, .inl (fun _ => 0)))] := hD
  refine W.widen (k := 3) (n := 332) (Nat.le_refl _) (Nat.le_refl _) ?_
  refine va_putF (D := D) (ci := 0) (v := .ref q37) (ty := (.array .int)) (C := RX0) (T := TX0) (N := 8) hx hb htg ig_0 tyX0 tyX0_ok nmX0 hown hK hP hD hS 0 rfl rfl 2 (by decide) (htg _ q_103) (fun _ h9 => h9) rfl hin rfl (by decide +kernel) rfl rfl (Nat.le_of_ble_eq_true rfl) dX0_init_39 (fun H locs hP hD hS => ?_)
  have hP : va_P D vwCl [(a0, .inr (0, [.ref q9, .ref q23, .ref q37, .null, .null, .null, .null, .int 0])), (q9, .inl (E 0, 4, .inl (fun _ => 0))), (q23, .inl (E 0, 168, .inl (fun _ => 0))), (q37, .inl (E 0, 160, .inl (fun _ => 0)))] H := hP
  have hD : va_D A [(a0, .inr (0, [.ref q9, .ref q23, .ref q37, .null, .null, .null, .null, .int 0])), (q9, .inl (E 0, 4, .inl (fun _ => 0))), (q23, .inl (E 0, 168, .inl (fun _ => 0))), (q37, .inl (E 0, 160, .inl (fun _ => 0)))] := hD
  refine lv_aload_n hx hb dX0_init_42 rfl (lv_at hl 0 rfl) ?_
  refine va_getsN hx hb hG.2.2.2.1.1 hS hown (va_Nw.use rfl (hG.2.1 ("OneHeavyLoad$Land", 9, "OneHeavyLoad", "ROOM", "[I", "OneHeavyLoad") (List.mem_of_getElem? (i := 0) rfl))) (fun _ h9 => h9) dX0_init_43 ?_
  refine lv_iconst (v := 2) hx hb dX0_init_46 (by decide) ?_
  refine va_ti (v := .int 5) hx hb hG.2.2.2.1.2 hS (show vp_in 2 4 by unfold vp_in; decide) (by decide) dX0_init_47 ?_
  refine lv_iconst (v := 3) hx hb dX0_init_48 (by decide) ?_
  refine lv_imul hx hb dX0_init_49 ?_
  refine oh_nrm (v := 15) (by decide) ?_
  refine va_newa (atype := .int) (N' := 15) (a0 := (15, .inl (fun _ => 0))) hx hb (htg _ q_132) rfl hK hP hD hS hA (fun _ => oh_new_i _ _) (by decide +kernel) (by decide +kernel) (by decide +kernel) (show 4 ≤ 7 from Nat.le_of_ble_eq_true rfl) (show 347 ≤ 367 from Nat.le_of_ble_eq_true rfl) dX0_init_50 (fun q50 cA H hK2 hP hD hS => ?_)
  have ec : cA = E 0 := oh_same hK2 (i := 4) (j := 0) rfl rfl (by intro C h; cases h)
  subst ec
  have hP : va_P D vwCl [(a0, .inr (0, [.ref q9, .ref q23, .ref q37, .null, .null, .null, .null, .int 0])), (q9, .inl (E 0, 4, .inl (fun _ => 0))), (q23, .inl (E 0, 168, .inl (fun _ => 0))), (q37, .inl (E 0, 160, .inl (fun _ => 0))), (q50, .inl (E 0, 15, .inl (fun _ => 0)))] H := hP
  have hD : va_D A [(a0, .inr (0, [.ref q9, .ref q23, .ref q37, .null, .null, .null, .null, .int 0])), (q9, .inl (E 0, 4, .inl (fun _ => 0))), (q23, .inl (E 0, 168, .inl (fun _ => 0))), (q37, .inl (E 0, 160, .inl (fun _ => 0))), (q50, .inl (E 0, 15, .inl (fun _ => 0)))] := hD
  refine W.widen (k := 4) (n := 347) (Nat.le_refl _) (Nat.le_refl _) ?_
  refine va_putF (D := D) (ci := 0) (v := .ref q50) (ty := (.array .int)) (C := RX0) (T := TX0) (N := 8) hx hb htg ig_0 tyX0 tyX0_ok nmX0 hown hK hP hD hS 0 rfl rfl 3 (by decide) (htg _ q_104) (fun _ h9 => h9) rfl hin rfl (by decide +kernel) rfl rfl (Nat.le_of_ble_eq_true rfl) dX0_init_52 (fun H locs hP hD hS => ?_)
  have hP : va_P D vwCl [(a0, .inr (0, [.ref q9, .ref q23, .ref q37, .ref q50, .null, .null, .null, .int 0])), (q9, .inl (E 0, 4, .inl (fun _ => 0))), (q23, .inl (E 0, 168, .inl (fun _ => 0))), (q37, .inl (E 0, 160, .inl (fun _ => 0))), (q50, .inl (E 0, 15, .inl (fun _ => 0)))] H := hP
  have hD : va_D A [(a0, .inr (0, [.ref q9, .ref q23, .ref q37, .ref q50, .null, .null, .null, .int 0])), (q9, .inl (E 0, 4, .inl (fun _ => 0))), (q23, .inl (E 0, 168, .inl (fun _ => 0))), (q37, .inl (E 0, 160, .inl (fun _ => 0))), (q50, .inl (E 0, 15, .inl (fun _ => 0)))] := hD
  refine lv_aload_n hx hb dX0_init_55 rfl (lv_at hl 0 rfl) ?_
  refine va_getsN hx hb hG.2.2.2.1.1 hS hown (va_Nw.use rfl (hG.2.1 ("OneHeavyLoad$Land", 9, "OneHeavyLoad", "ROOM", "[I", "OneHeavyLoad") (List.mem_of_getElem? (i := 0) rfl))) (fun _ h9 => h9) dX0_init_56 ?_
  refine lv_iconst (v := 3) hx hb dX0_init_59 (by decide) ?_
  refine va_ti (v := .int 5) hx hb hG.2.2.2.1.2 hS (show vp_in 3 4 by unfold vp_in; decide) (by decide) dX0_init_60 ?_
  refine lv_iconst (v := 2) hx hb dX0_init_61 (by decide) ?_
  refine lv_imul hx hb dX0_init_62 ?_
  refine oh_nrm (v := 10) (by decide) ?_
  refine va_newa (atype := .int) (N' := 10) (a0 := (10, .inl (fun _ => 0))) hx hb (htg _ q_132) rfl hK hP hD hS hA (fun _ => oh_new_i _ _) (by decide +kernel) (by decide +kernel) (by decide +kernel) (show 5 ≤ 7 from Nat.le_of_ble_eq_true rfl) (show 357 ≤ 367 from Nat.le_of_ble_eq_true rfl) dX0_init_63 (fun q63 cA H hK2 hP hD hS => ?_)
  have ec : cA = E 0 := oh_same hK2 (i := 4) (j := 0) rfl rfl (by intro C h; cases h)
  subst ec
  have hP : va_P D vwCl [(a0, .inr (0, [.ref q9, .ref q23, .ref q37, .ref q50, .null, .null, .null, .int 0])), (q9, .inl (E 0, 4, .inl (fun _ => 0))), (q23, .inl (E 0, 168, .inl (fun _ => 0))), (q37, .inl (E 0, 160, .inl (fun _ => 0))), (q50, .inl (E 0, 15, .inl (fun _ => 0))), (q63, .inl (E 0, 10, .inl (fun _ => 0)))] H := hP
  have hD : va_D A [(a0, .inr (0, [.ref q9, .ref q23, .ref q37, .ref q50, .null, .null, .null, .int 0])), (q9, .inl (E 0, 4, .inl (fun _ => 0))), (q23, .inl (E 0, 168, .inl (fun _ => 0))), (q37, .inl (E 0, 160, .inl (fun _ => 0))), (q50, .inl (E 0, 15, .inl (fun _ => 0))), (q63, .inl (E 0, 10, .inl (fun _ => 0)))] := hD
  refine W.widen (k := 5) (n := 357) (Nat.le_refl _) (Nat.le_refl _) ?_
  refine va_putF (D := D) (ci := 0) (v := .ref q63) (ty := (.array .int)) (C := RX0) (T := TX0) (N := 8) hx hb htg ig_0 tyX0 tyX0_ok nmX0 hown hK hP hD hS 0 rfl rfl 4 (by decide) (htg _ q_105) (fun _ h9 => h9) rfl hin rfl (by decide +kernel) rfl rfl (Nat.le_of_ble_eq_true rfl) dX0_init_65 (fun H locs hP hD hS => ?_)
  have hP : va_P D vwCl [(a0, .inr (0, [.ref q9, .ref q23, .ref q37, .ref q50, .ref q63, .null, .null, .int 0])), (q9, .inl (E 0, 4, .inl (fun _ => 0))), (q23, .inl (E 0, 168, .inl (fun _ => 0))), (q37, .inl (E 0, 160, .inl (fun _ => 0))), (q50, .inl (E 0, 15, .inl (fun _ => 0))), (q63, .inl (E 0, 10, .inl (fun _ => 0)))] H := hP
  have hD : va_D A [(a0, .inr (0, [.ref q9, .ref q23, .ref q37, .ref q50, .ref q63, .null, .null, .int 0])), (q9, .inl (E 0, 4, .inl (fun _ => 0))), (q23, .inl (E 0, 168, .inl (fun _ => 0))), (q37, .inl (E 0, 160, .inl (fun _ => 0))), (q50, .inl (E 0, 15, .inl (fun _ => 0))), (q63, .inl (E 0, 10, .inl (fun _ => 0)))] := hD
  refine lv_aload_n hx hb dX0_init_68 rfl (lv_at hl 0 rfl) ?_
  refine lv_iconst (v := 3) hx hb dX0_init_69 (by decide) ?_
  refine va_newa (atype := .int) (N' := 3) (a0 := (3, .inl (fun _ => 0))) hx hb (htg _ q_132) rfl hK hP hD hS hA (fun _ => oh_new_i _ _) (by decide +kernel) (by decide +kernel) (by decide +kernel) (show 6 ≤ 7 from Nat.le_of_ble_eq_true rfl) (show 360 ≤ 367 from Nat.le_of_ble_eq_true rfl) dX0_init_70 (fun q70 cA H hK2 hP hD hS => ?_)
  have ec : cA = E 0 := oh_same hK2 (i := 4) (j := 0) rfl rfl (by intro C h; cases h)
  subst ec
  have hP : va_P D vwCl [(a0, .inr (0, [.ref q9, .ref q23, .ref q37, .ref q50, .ref q63, .null, .null, .int 0])), (q9, .inl (E 0, 4, .inl (fun _ => 0))), (q23, .inl (E 0, 168, .inl (fun _ => 0))), (q37, .inl (E 0, 160, .inl (fun _ => 0))), (q50, .inl (E 0, 15, .inl (fun _ => 0))), (q63, .inl (E 0, 10, .inl (fun _ => 0))), (q70, .inl (E 0, 3, .inl (fun _ => 0)))] H := hP
  have hD : va_D A [(a0, .inr (0, [.ref q9, .ref q23, .ref q37, .ref q50, .ref q63, .null, .null, .int 0])), (q9, .inl (E 0, 4, .inl (fun _ => 0))), (q23, .inl (E 0, 168, .inl (fun _ => 0))), (q37, .inl (E 0, 160, .inl (fun _ => 0))), (q50, .inl (E 0, 15, .inl (fun _ => 0))), (q63, .inl (E 0, 10, .inl (fun _ => 0))), (q70, .inl (E 0, 3, .inl (fun _ => 0)))] := hD
  refine W.widen (k := 6) (n := 360) (Nat.le_refl _) (Nat.le_refl _) ?_
  refine va_putF (D := D) (ci := 0) (v := .ref q70) (ty := (.array .int)) (C := RX0) (T := TX0) (N := 8) hx hb htg ig_0 tyX0 tyX0_ok nmX0 hown hK hP hD hS 0 rfl rfl 5 (by decide) (htg _ q_106) (fun _ h9 => h9) rfl hin rfl (by decide +kernel) rfl rfl (Nat.le_of_ble_eq_true rfl) dX0_init_72 (fun H locs hP hD hS => ?_)
  have hP : va_P D vwCl [(a0, .inr (0, [.ref q9, .ref q23, .ref q37, .ref q50, .ref q63, .ref q70, .null, .int 0])), (q9, .inl (E 0, 4, .inl (fun _ => 0))), (q23, .inl (E 0, 168, .inl (fun _ => 0))), (q37, .inl (E 0, 160, .inl (fun _ => 0))), (q50, .inl (E 0, 15, .inl (fun _ => 0))), (q63, .inl (E 0, 10, .inl (fun _ => 0))), (q70, .inl (E 0, 3, .inl (fun _ => 0)))] H := hP
  have hD : va_D A [(a0, .inr (0, [.ref q9, .ref q23, .ref q37, .ref q50, .ref q63, .ref q70, .null, .int 0])), (q9, .inl (E 0, 4, .inl (fun _ => 0))), (q23, .inl (E 0, 168, .inl (fun _ => 0))), (q37, .inl (E 0, 160, .inl (fun _ => 0))), (q50, .inl (E 0, 15, .inl (fun _ => 0))), (q63, .inl (E 0, 10, .inl (fun _ => 0))), (q70, .inl (E 0, 3, .inl (fun _ => 0)))] := hD
  refine lv_aload_n hx hb dX0_init_75 rfl (lv_at hl 0 rfl) ?_
  refine va_get (D := D) (ci := 0) (v := .ref q70) (C := RX0) (T := TX0) (N := 8) hx hb htg ig_0 hown hK hP 0 rfl rfl 5 (by decide) (htg _ q_106) (fun _ h9 => h9) rfl dX0_init_76 ?_
  refine lv_iconst (v := 0) hx hb dX0_init_79 (by decide) ?_
  refine lv_bipush (v := 100) hx hb dX0_init_80 (by decide) ?_
  refine va_iast hx hb hK hP hD hS 6 0 rfl rfl (show vp_in 0 3 by unfold vp_in; decide) dX0_init_82 (fun H locs hP hD hS => ?_)
  have hP : va_P D vwCl [(a0, .inr (0, [.ref q9, .ref q23, .ref q37, .ref q50, .ref q63, .ref q70, .null, .int 0])), (q9, .inl (E 0, 4, .inl (fun _ => 0))), (q23, .inl (E 0, 168, .inl (fun _ => 0))), (q37, .inl (E 0, 160, .inl (fun _ => 0))), (q50, .inl (E 0, 15, .inl (fun _ => 0))), (q63, .inl (E 0, 10, .inl (fun _ => 0))), (q70, .inl (E 0, 3, .inl (upd (fun _ => 0) 0 100)))] H := hP
  have hD : va_D A [(a0, .inr (0, [.ref q9, .ref q23, .ref q37, .ref q50, .ref q63, .ref q70, .null, .int 0])), (q9, .inl (E 0, 4, .inl (fun _ => 0))), (q23, .inl (E 0, 168, .inl (fun _ => 0))), (q37, .inl (E 0, 160, .inl (fun _ => 0))), (q50, .inl (E 0, 15, .inl (fun _ => 0))), (q63, .inl (E 0, 10, .inl (fun _ => 0))), (q70, .inl (E 0, 3, .inl (upd (fun _ => 0) 0 100)))] := hD
  refine lv_aload_n hx hb dX0_init_83 rfl (lv_at hl 0 rfl) ?_
  refine va_get (D := D) (ci := 0) (v := .ref q70) (C := RX0) (T := TX0) (N := 8) hx hb htg ig_0 hown hK hP 0 rfl rfl 5 (by decide) (htg _ q_106) (fun _ h9 => h9) rfl dX0_init_84 ?_
  refine lv_iconst (v := 1) hx hb dX0_init_87 (by decide) ?_
  refine lv_iconst (v := 2) hx hb dX0_init_88 (by decide) ?_
  refine va_iast hx hb hK hP hD hS 6 0 rfl rfl (show vp_in 1 3 by unfold vp_in; decide) dX0_init_89 (fun H locs hP hD hS => ?_)
  have hP : va_P D vwCl [(a0, .inr (0, [.ref q9, .ref q23, .ref q37, .ref q50, .ref q63, .ref q70, .null, .int 0])), (q9, .inl (E 0, 4, .inl (fun _ => 0))), (q23, .inl (E 0, 168, .inl (fun _ => 0))), (q37, .inl (E 0, 160, .inl (fun _ => 0))), (q50, .inl (E 0, 15, .inl (fun _ => 0))), (q63, .inl (E 0, 10, .inl (fun _ => 0))), (q70, .inl (E 0, 3, .inl (upd (upd (fun _ => 0) 0 100) 1 2)))] H := hP
  have hD : va_D A [(a0, .inr (0, [.ref q9, .ref q23, .ref q37, .ref q50, .ref q63, .ref q70, .null, .int 0])), (q9, .inl (E 0, 4, .inl (fun _ => 0))), (q23, .inl (E 0, 168, .inl (fun _ => 0))), (q37, .inl (E 0, 160, .inl (fun _ => 0))), (q50, .inl (E 0, 15, .inl (fun _ => 0))), (q63, .inl (E 0, 10, .inl (fun _ => 0))), (q70, .inl (E 0, 3, .inl (upd (upd (fun _ => 0) 0 100) 1 2)))] := hD
  refine lv_aload_n hx hb dX0_init_90 rfl (lv_at hl 0 rfl) ?_
  refine lv_bipush (v := 7) hx hb dX0_init_91 (by decide) ?_
  refine va_newa (atype := .int) (N' := 7) (a0 := (7, .inl (fun _ => 0))) hx hb (htg _ q_132) rfl hK hP hD hS hA (fun _ => oh_new_i _ _) (by decide +kernel) (by decide +kernel) (by decide +kernel) (show 7 ≤ 7 from Nat.le_of_ble_eq_true rfl) (show 367 ≤ 367 from Nat.le_of_ble_eq_true rfl) dX0_init_93 (fun q93 cA H hK2 hP hD hS => ?_)
  have ec : cA = E 0 := oh_same hK2 (i := 4) (j := 0) rfl rfl (by intro C h; cases h)
  subst ec
  have hP : va_P D vwCl [(a0, .inr (0, [.ref q9, .ref q23, .ref q37, .ref q50, .ref q63, .ref q70, .null, .int 0])), (q9, .inl (E 0, 4, .inl (fun _ => 0))), (q23, .inl (E 0, 168, .inl (fun _ => 0))), (q37, .inl (E 0, 160, .inl (fun _ => 0))), (q50, .inl (E 0, 15, .inl (fun _ => 0))), (q63, .inl (E 0, 10, .inl (fun _ => 0))), (q70, .inl (E 0, 3, .inl (upd (upd (fun _ => 0) 0 100) 1 2))), (q93, .inl (E 0, 7, .inl (fun _ => 0)))] H := hP
  have hD : va_D A [(a0, .inr (0, [.ref q9, .ref q23, .ref q37, .ref q50, .ref q63, .ref q70, .null, .int 0])), (q9, .inl (E 0, 4, .inl (fun _ => 0))), (q23, .inl (E 0, 168, .inl (fun _ => 0))), (q37, .inl (E 0, 160, .inl (fun _ => 0))), (q50, .inl (E 0, 15, .inl (fun _ => 0))), (q63, .inl (E 0, 10, .inl (fun _ => 0))), (q70, .inl (E 0, 3, .inl (upd (upd (fun _ => 0) 0 100) 1 2))), (q93, .inl (E 0, 7, .inl (fun _ => 0)))] := hD
  refine W.widen (k := 7) (n := 367) (Nat.le_refl _) (Nat.le_refl _) ?_
  refine va_putF (D := D) (ci := 0) (v := .ref q93) (ty := (.array .int)) (C := RX0) (T := TX0) (N := 8) hx hb htg ig_0 tyX0 tyX0_ok nmX0 hown hK hP hD hS 0 rfl rfl 6 (by decide) (htg _ q_111) (fun _ h9 => h9) rfl hin rfl (by decide +kernel) rfl rfl (Nat.le_of_ble_eq_true rfl) dX0_init_95 (fun H locs hP hD hS => ?_)
  have hP : va_P D vwCl [(a0, .inr (0, [.ref q9, .ref q23, .ref q37, .ref q50, .ref q63, .ref q70, .ref q93, .int 0])), (q9, .inl (E 0, 4, .inl (fun _ => 0))), (q23, .inl (E 0, 168, .inl (fun _ => 0))), (q37, .inl (E 0, 160, .inl (fun _ => 0))), (q50, .inl (E 0, 15, .inl (fun _ => 0))), (q63, .inl (E 0, 10, .inl (fun _ => 0))), (q70, .inl (E 0, 3, .inl (upd (upd (fun _ => 0) 0 100) 1 2))), (q93, .inl (E 0, 7, .inl (fun _ => 0)))] H := hP
  have hD : va_D A [(a0, .inr (0, [.ref q9, .ref q23, .ref q37, .ref q50, .ref q63, .ref q70, .ref q93, .int 0])), (q9, .inl (E 0, 4, .inl (fun _ => 0))), (q23, .inl (E 0, 168, .inl (fun _ => 0))), (q37, .inl (E 0, 160, .inl (fun _ => 0))), (q50, .inl (E 0, 15, .inl (fun _ => 0))), (q63, .inl (E 0, 10, .inl (fun _ => 0))), (q70, .inl (E 0, 3, .inl (upd (upd (fun _ => 0) 0 100) 1 2))), (q93, .inl (E 0, 7, .inl (fun _ => 0)))] := hD
  refine lv_aload_n hx hb dX0_init_98 rfl (lv_at hl 0 rfl) ?_
  refine lv_iconst (v := 0) hx hb dX0_init_99 (by decide) ?_
  refine va_put (D := D) (ci := 0) (v := .int 0) (ty := .boolean) (C := RX0) (T := TX0) (N := 8) hx hb htg ig_0 tyX0 tyX0_ok nmX0 hown hK hP hD hS 0 rfl rfl 7 (by decide) (htg _ q_113) (fun _ h9 => h9) rfl (by decide +kernel) (by decide) (by decide) (Nat.le_of_ble_eq_true rfl) dX0_init_100 (fun H locs hP hD hS => ?_)
  have hP : va_P D vwCl [(a0, .inr (0, [.ref q9, .ref q23, .ref q37, .ref q50, .ref q63, .ref q70, .ref q93, .int 0])), (q9, .inl (E 0, 4, .inl (fun _ => 0))), (q23, .inl (E 0, 168, .inl (fun _ => 0))), (q37, .inl (E 0, 160, .inl (fun _ => 0))), (q50, .inl (E 0, 15, .inl (fun _ => 0))), (q63, .inl (E 0, 10, .inl (fun _ => 0))), (q70, .inl (E 0, 3, .inl (upd (upd (fun _ => 0) 0 100) 1 2))), (q93, .inl (E 0, 7, .inl (fun _ => 0)))] H := hP
  have hD : va_D A [(a0, .inr (0, [.ref q9, .ref q23, .ref q37, .ref q50, .ref q63, .ref q70, .ref q93, .int 0])), (q9, .inl (E 0, 4, .inl (fun _ => 0))), (q23, .inl (E 0, 168, .inl (fun _ => 0))), (q37, .inl (E 0, 160, .inl (fun _ => 0))), (q50, .inl (E 0, 15, .inl (fun _ => 0))), (q63, .inl (E 0, 10, .inl (fun _ => 0))), (q70, .inl (E 0, 3, .inl (upd (upd (fun _ => 0) 0 100) 1 2))), (q93, .inl (E 0, 7, .inl (fun _ => 0)))] := hD
  refine W.widen (k := 7) (n := 367) (show 7 ≤ 7 from Nat.le_of_ble_eq_true rfl) (show 367 ≤ 367 from Nat.le_of_ble_eq_true rfl) ?_
  exact W.vret hx hb hr (fun t ht hW => ⟨⟨(q9, q23, q37, q50, q63, q70, q93), rfl, trivial, ⟨by rw [ht]; exact hP.sub [0, 1, 2, 3, 4, 5, 6, 7] rfl, hD.sub [0, 1, 2, 3, 4, 5, 6, 7] (by decide) rfl⟩⟩, hS.F ht⟩) hS.2.2 dX0_init_103
