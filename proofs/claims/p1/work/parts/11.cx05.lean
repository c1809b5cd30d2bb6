set_option maxHeartbeats 4000000 in
set_option maxRecDepth 100000 in
theorem c_X5_init (l : Launch) (D : va_G) (E : Nat → ClassId) (G : Nat → Nat) (sz : Nat) (a0 : Nat) (b1 : Nat) : Met l yX5_init (oh_w yX5_init cX5_init 2 none) ({ frames := 2, cells := 6, slots := 97, locals := 32 }) (oh_Pm D E G [.ref a0, .ref b1] [(a0, .inr (5, [.null, .null, .null, .null, .null, .null, .null]))] sz) (va_Qv (fun (_ : (Nat × Nat × Nat × Nat × Nat × Nat)) => True) (oh_B D (va_A [(a0, .inr (5, [.null, .null, .null, .null, .null, .null, .null]))] sz) (fun u => match u with | (q10, q26, q37, q48, q56, q63) => [(a0, .inr (5, [.ref b1, .ref q10, .ref q26, .ref q37, .ref q48, .ref q56, .ref q63])), (q10, .inr (1, [.int 0, .int 0, .int 0, .int 0, .int 0])), (q26, .inl (E 0, 24, .inl (fun _ => 0))), (q37, .inl (E 0, 24, .inl (fun _ => 0))), (q48, .inl (E 0, 24, .inl (fun _ => 0))), (q56, .inl (E 0, 16, .inl (fun _ => 0))), (q63, .inl (E 0, 4, .inl (fun _ => 0)))])) (va_A [(a0, .inr (5, [.null, .null, .null, .null, .null, .null, .null]))] sz)) 6 97 (va_A [(a0, .inr (5, [.null, .null, .null, .null, .null, .null, .null]))] sz) := by
  refine Met.ofW (cc := cX5_init) (maxL := 2) (ret := none) (by decide) rfl ?_
  intro p e s m args below meth c s₁ B hml hv
  obtain ⟨rfl, hsz, hP, hK, hD0, hG⟩ := hv
  have hx := B.exec
  have hb := B.bytes
  have hr := B.returns
  have hts := atoms_spec (ws := (oh_w yX5_init cX5_init 2 none)) B.pre
  have htg : ∀ w ∈ oh_t, w.before _ s = true := fun w h => hts w (List.mem_cons_of_mem _ h)
  have hown : s.vm.findClass RX5 = some m.cls := findClass_of_methodNamed B.named
  have hlocks := B.notSynchronized
  have hin : meth.name = "<init>" := (name_of_methodNamed B.named B.method).1
  subst hsz
  have hD := hD0.self (sz := s.heap.size)
  generalize hAe : va_A [(a0, .inr (5, [.null, .null, .null, .null, .null, .null, .null]))] s.heap.size = A at hD hG ⊢
  have hA : ∀ q : Nat, s.heap.size ≤ q → A q := fun q h => by rw [← hAe]; exact Or.inr h
  have hS : va_S A s.heap s.heap [] := va_S.rf
  have hP : va_P D vwCl [(a0, .inr (5, [.null, .null, .null, .null, .null, .null, .null]))] s.heap := hP
  have hl := lv_entry ([.ref a0, .ref b1]) (n := 2) (Nat.le_of_ble_eq_true rfl)
  rw [lg_entry_eq]
  generalize (lg_sl ([.ref a0, .ref b1]) ++ List.replicate (2 - (lg_sl ([.ref a0, .ref b1])).length) Slot.unset).toArray = ls at hl ⊢
  have hl : lv_has ls 2 [(0, .ref a0), (1, .ref b1)] := hl
  refine lv_aload_n hx hb dX5_init_0 rfl (lv_at hl 0 rfl) ?_
  refine W.objInit hx hb hown (htg _ q_138) (htg _ q_87) (htg _ q_88) rfl (by rw [hml]; exact hl.1) rfl dX5_init_1 (Nat.le_of_ble_eq_true rfl) (Nat.le_of_ble_eq_true rfl) ?_
  refine W.eq (g2 := F0 m 4 ls []) rfl ?_
  refine lv_aload_n hx hb dX5_init_4 rfl (lv_at hl 0 rfl) ?_
  refine lv_aload_n hx hb dX5_init_5 rfl (lv_at hl 1 rfl) ?_
  refine va_putF (D := D) (ci := 5) (v := .ref b1) (ty := (.object "OneHeavyLoad$Land")) (C := RX5) (T := TX5) (N := 7) hx hb htg ig_5 tyX5 tyX5_ok nmX5 hown hK hP hD hS 0 rfl rfl 0 (by decide) (htg _ q_167) (fun _ h9 => h9) rfl hin rfl (by decide +kernel) rfl rfl (Nat.le_of_ble_eq_true rfl) dX5_init_6 (fun H locs hP hD hS => ?_)
  have hP : va_P D vwCl [(a0, .inr (5, [.ref b1, .null, .null, .null, .null, .null, .null]))] H := hP
  have hD : va_D A [(a0, .inr (5, [.ref b1, .null, .null, .null, .null, .null, .null]))] := hD
  refine lv_aload_n hx hb dX5_init_9 rfl (lv_at hl 0 rfl) ?_
  refine va_new (ci := 1) (fs := [.int 0, .int 0, .int 0, .int 0, .int 0]) (C := RX1) (T := TX1) (N := 5) hx hb htg ig_1 tyX1 tyX1_ok hown (htg _ q_139) (htg _ q_140) (htg _ q_69) hK hP hD hS hA rfl (oh_df1) (show 1 ≤ 6 from Nat.le_of_ble_eq_true rfl) (show 5 ≤ 97 from Nat.le_of_ble_eq_true rfl) dX5_init_10 (fun q10 H hP hD hS => ?_)
  have hP : va_P D vwCl [(a0, .inr (5, [.ref b1, .null, .null, .null, .null, .null, .null])), (q10, .inr (1, [.int 0, .int 0, .int 0, .int 0, .int 0]))] H := hP
  have hD : va_D A [(a0, .inr (5, [.ref b1, .null, .null, .null, .null, .null, .null])), (q10, .inr (1, [.int 0, .int 0, .int 0, .int 0, .int 0]))] := hD
  refine W.widen (k := 1) (n := 5) (Nat.le_refl _) (Nat.le_refl _) ?_
  refine lv_dup hx hb dX5_init_13 rfl ?_
  refine oh_mIN (As := []) (rest := [.ref q10, .ref a0]) (wr := [(a0, .inr (5, [.ref b1, .null, .null, .null, .null, .null, .null]))]) ⟨hx, hb, hml, hown, htg⟩ (c_X1_init l D E G H.size q10) ⟨va_cnB (y := yX1_init) 0 htg (oh_gW q_143) rfl rfl rfl (hG.1 ("OneHeavyLoad$Ways", 17, ⟨"OneHeavyLoad$Pack", "<init>", "()V"⟩, "OneHeavyLoad") (List.mem_of_getElem? (i := 0) rfl)) (htg _ q_69) pdX1_init ⟨Nat.le_of_ble_eq_true rfl, Nat.le_of_ble_eq_true rfl⟩, rfl, htg _ q_142⟩ hK hP hD hG hS hA [1] [0] rfl rfl (by decide) (by decide) (by decide) rfl hl.1 rfl (Nat.le_of_ble_eq_true rfl) dX5_init_14 ⟨(show 1 ≤ 6 from Nat.le_of_ble_eq_true rfl), (show 5 ≤ 97 from Nat.le_of_ble_eq_true rfl)⟩ (fun u H locs hw hP hD hS => ?_)
  have hP : va_P D vwCl [(a0, .inr (5, [.ref b1, .null, .null, .null, .null, .null, .null])), (q10, .inr (1, [.int 0, .int 0, .int 0, .int 0, .int 0]))] H := hP
  have hD : va_D A [(a0, .inr (5, [.ref b1, .null, .null, .null, .null, .null, .null])), (q10, .inr (1, [.int 0, .int 0, .int 0, .int 0, .int 0]))] := hD
  refine W.widen (k := 1) (n := 5) (Nat.le_refl _) (Nat.le_refl _) ?_
  refine va_putF (D := D) (ci := 5) (v := .ref q10) (ty := (.object "OneHeavyLoad$Pack")) (C := RX5) (T := TX5) (N := 7) hx hb htg ig_5 tyX5 tyX5_ok nmX5 hown hK hP hD hS 0 rfl rfl 1 (by decide) (htg _ q_168) (fun _ h9 => h9) rfl hin rfl (by decide +kernel) rfl rfl (Nat.le_of_ble_eq_true rfl) dX5_init_17 (fun H locs hP hD hS => ?_)
  have hP : va_P D vwCl [(a0, .inr (5, [.ref b1, .ref q10, .null, .null, .null, .null, .null])), (q10, .inr (1, [.int 0, .int 0, .int 0, .int 0, .int 0]))] H := hP
  have hD : va_D A [(a0, .inr (5, [.ref b1, .ref q10, .null, .null, .null, .null, .null])), (q10, .inr (1, [.int 0, .int 0, .int 0, .int 0, .int 0]))] := hD
  refine lv_aload_n hx hb dX5_init_20 rfl (lv_at hl 0 rfl) ?_
  refine va_getsN hx hb hG.2.2.2.1.1 hS hown (va_Nw.use rfl (hG.2.1 ("OneHeavyLoad$Ways", 22, "OneHeavyLoad", "ROOM", "[I", "OneHeavyLoad") (List.mem_of_getElem? (i := 1) rfl))) (fun _ h9 => h9) dX5_init_21 ?_
  refine lv_iconst (v := 0) hx hb dX5_init_24 (by decide) ?_
  refine va_ti (v := .int 24) hx hb hG.2.2.2.1.2 hS (show vp_in 0 4 by unfold vp_in; decide) (by decide) dX5_init_25 ?_
  refine va_newa (atype := .int) (N' := 24) (a0 := (24, .inl (fun _ => 0))) hx hb (htg _ q_132) rfl hK hP hD hS hA (fun _ => oh_new_i _ _) (by decide +kernel) (by decide +kernel) (by decide +kernel) (show 2 ≤ 6 from Nat.le_of_ble_eq_true rfl) (show 29 ≤ 97 from Nat.le_of_ble_eq_true rfl) dX5_init_26 (fun q26 cA H hK2 hP hD hS => ?_)
  have ec : cA = E 0 := oh_same hK2 (i := 4) (j := 0) rfl rfl (by intro C h; cases h)
  subst ec
  have hP : va_P D vwCl [(a0, .inr (5, [.ref b1, .ref q10, .null, .null, .null, .null, .null])), (q10, .inr (1, [.int 0, .int 0, .int 0, .int 0, .int 0])), (q26, .inl (E 0, 24, .inl (fun _ => 0)))] H := hP
  have hD : va_D A [(a0, .inr (5, [.ref b1, .ref q10, .null, .null, .null, .null, .null])), (q10, .inr (1, [.int 0, .int 0, .int 0, .int 0, .int 0])), (q26, .inl (E 0, 24, .inl (fun _ => 0)))] := hD
  refine W.widen (k := 2) (n := 29) (Nat.le_refl _) (Nat.le_refl _) ?_
  refine va_putF (D := D) (ci := 5) (v := .ref q26) (ty := (.array .int)) (C := RX5) (T := TX5) (N := 7) hx hb htg ig_5 tyX5 tyX5_ok nmX5 hown hK hP hD hS 0 rfl rfl 2 (by decide) (htg _ q_170) (fun _ h9 => h9) rfl hin rfl (by decide +kernel) rfl rfl (Nat.le_of_ble_eq_true rfl) dX5_init_28 (fun H locs hP hD hS => ?_)
  have hP : va_P D vwCl [(a0, .inr (5, [.ref b1, .ref q10, .ref q26, .null, .null, .null, .null])), (q10, .inr (1, [.int 0, .int 0, .int 0, .int 0, .int 0])), (q26, .inl (E 0, 24, .inl (fun _ => 0)))] H := hP
  have hD : va_D A [(a0, .inr (5, [.ref b1, .ref q10, .ref q26, .null, .null, .null, .null])), (q10, .inr (1, [.int 0, .int 0, .int 0, .int 0, .int 0])), (q26, .inl (E 0, 24, .inl (fun _ => 0)))] := hD
  refine lv_aload_n hx hb dX5_init_31 rfl (lv_at hl 0 rfl) ?_
  refine va_getsN hx hb hG.2.2.2.1.1 hS hown (va_Nw.use rfl (hG.2.1 ("OneHeavyLoad$Ways", 22, "OneHeavyLoad", "ROOM", "[I", "OneHeavyLoad") (List.mem_of_getElem? (i := 1) rfl))) (fun _ h9 => h9) dX5_init_32 ?_
  refine lv_iconst (v := 0) hx hb dX5_init_35 (by decide) ?_
  refine va_ti (v := .int 24) hx hb hG.2.2.2.1.2 hS (show vp_in 0 4 by unfold vp_in; decide) (by decide) dX5_init_36 ?_
  refine va_newa (atype := .int) (N' := 24) (a0 := (24, .inl (fun _ => 0))) hx hb (htg _ q_132) rfl hK hP hD hS hA (fun _ => oh_new_i _ _) (by decide +kernel) (by decide +kernel) (by decide +kernel) (show 3 ≤ 6 from Nat.le_of_ble_eq_true rfl) (show 53 ≤ 97 from Nat.le_of_ble_eq_true rfl) dX5_init_37 (fun q37 cA H hK2 hP hD hS => ?_)
  have ec : cA = E 0 := oh_same hK2 (i := 4) (j := 0) rfl rfl (by intro C h; cases h)
  subst ec
  have hP : va_P D vwCl [(a0, .inr (5, [.ref b1, .ref q10, .ref q26, .null, .null, .null, .null])), (q10, .inr (1, [.int 0, .int 0, .int 0, .int 0, .int 0])), (q26, .inl (E 0, 24, .inl (fun _ => 0))), (q37, .inl (E 0, 24, .inl (fun _ => 0)))] H := hP
  have hD : va_D A [(a0, .inr (5, [.ref b1, .ref q10, .ref q26, .null, .null, .null, .null])), (q10, .inr (1, [.int 0, .int 0, .int 0, .int 0, .int 0])), (q26, .inl (E 0, 24, .inl (fun _ => 0))), (q37, .inl (E 0, 24, .inl (fun _ => 0)))] := hD
  refine W.widen (k := 3) (n := 53) (Nat.le_refl _) (Nat.le_refl _) ?_
  refine va_putF (D := D) (ci := 5) (v := .ref q37) (ty := (.array .int)) (C := RX5) (T := TX5) (N := 7) hx hb htg ig_5 tyX5 tyX5_ok nmX5 hown hK hP hD hS 0 rfl rfl 3 (by decide) (htg _ q_172) (fun _ h9 => h9) rfl hin rfl (by decide +kernel) rfl rfl (Nat.le_of_ble_eq_true rfl) dX5_init_39 (fun H locs hP hD hS => ?_)
  have hP : va_P D vwCl [(a0, .inr (5, [.ref b1, .ref q10, .ref q26, .ref q37, .null, .null, .null])), (q10, .inr (1, [.int 0, .int 0, .int 0, .int 0, .int 0])), (q26, .inl (E 0, 24, .inl (fun _ => 0))), (q37, .inl (E 0, 24, .inl (fun _ => 0)))] H := hP
  have hD : va_D A [(a0, .inr (5, [.ref b1, .ref q10, .ref q26, .ref q37, .null, .null, .null])), (q10, .inr (1, [.int 0, .int 0, .int 0, .int 0, .int 0])), (q26, .inl (E 0, 24, .inl (fun _ => 0))), (q37, .inl (E 0, 24, .inl (fun _ => 0)))] := hD
  refine lv_aload_n hx hb dX5_init_42 rfl (lv_at hl 0 rfl) ?_
  refine va_getsN hx hb hG.2.2.2.1.1 hS hown (va_Nw.use rfl (hG.2.1 ("OneHeavyLoad$Ways", 22, "OneHeavyLoad", "ROOM", "[I", "OneHeavyLoad") (List.mem_of_getElem? (i := 1) rfl))) (fun _ h9 => h9) dX5_init_43 ?_
  refine lv_iconst (v := 0) hx hb dX5_init_46 (by decide) ?_
  refine va_ti (v := .int 24) hx hb hG.2.2.2.1.2 hS (show vp_in 0 4 by unfold vp_in; decide) (by decide) dX5_init_47 ?_
  refine va_newa (atype := .int) (N' := 24) (a0 := (24, .inl (fun _ => 0))) hx hb (htg _ q_132) rfl hK hP hD hS hA (fun _ => oh_new_i _ _) (by decide +kernel) (by decide +kernel) (by decide +kernel) (show 4 ≤ 6 from Nat.le_of_ble_eq_true rfl) (show 77 ≤ 97 from Nat.le_of_ble_eq_true rfl) dX5_init_48 (fun q48 cA H hK2 hP hD hS => ?_)
  have ec : cA = E 0 := oh_same hK2 (i := 4) (j := 0) rfl rfl (by intro C h; cases h)
  subst ec
  have hP : va_P D vwCl [(a0, .inr (5, [.ref b1, .ref q10, .ref q26, .ref q37, .null, .null, .null])), (q10, .inr (1, [.int 0, .int 0, .int 0, .int 0, .int 0])), (q26, .inl (E 0, 24, .inl (fun _ => 0))), (q37, .inl (E 0, 24, .inl (fun _ => 0))), (q48, .inl (E 0, 24, .inl (fun _ => 0)))] H := hP
  have hD : va_D A [(a0, .inr (5, [.ref b1, .ref q10, .ref q26, .ref q37, .null, .null, .null])), (q10, .inr (1, [.int 0, .int 0, .int 0, .int 0, .int 0])), (q26, .inl (E 0, 24, .inl (fun _ => 0))), (q37, .inl (E 0, 24, .inl (fun _ => 0))), (q48, .inl (E 0, 24, .inl (fun _ => 0)))] := hD
  refine W.widen (k := 4) (n := 77) (Nat.le_refl _) (Nat.le_refl _) ?_
  refine va_putF (D := D) (ci := 5) (v := .ref q48) (ty := (.array .int)) (C := RX5) (T := TX5) (N := 7) hx hb htg ig_5 tyX5 tyX5_ok nmX5 hown hK hP hD hS 0 rfl rfl 4 (by decide) (htg _ q_173) (fun _ h9 => h9) rfl hin rfl (by decide +kernel) rfl rfl (Nat.le_of_ble_eq_true rfl) dX5_init_50 (fun H locs hP hD hS => ?_)
  have hP : va_P D vwCl [(a0, .inr (5, [.ref b1, .ref q10, .ref q26, .ref q37, .ref q48, .null, .null])), (q10, .inr (1, [.int 0, .int 0, .int 0, .int 0, .int 0])), (q26, .inl (E 0, 24, .inl (fun _ => 0))), (q37, .inl (E 0, 24, .inl (fun _ => 0))), (q48, .inl (E 0, 24, .inl (fun _ => 0)))] H := hP
  have hD : va_D A [(a0, .inr (5, [.ref b1, .ref q10, .ref q26, .ref q37, .ref q48, .null, .null])), (q10, .inr (1, [.int 0, .int 0, .int 0, .int 0, .int 0])), (q26, .inl (E 0, 24, .inl (fun _ => 0))), (q37, .inl (E 0, 24, .inl (fun _ => 0))), (q48, .inl (E 0, 24, .inl (fun _ => 0)))] := hD
  refine lv_aload_n hx hb dX5_init_53 rfl (lv_at hl 0 rfl) ?_
  refine lv_bipush (v := 16) hx hb dX5_init_54 (by decide) ?_
  refine va_newa (atype := .int) (N' := 16) (a0 := (16, .inl (fun _ => 0))) hx hb (htg _ q_132) rfl hK hP hD hS hA (fun _ => oh_new_i _ _) (by decide +kernel) (by decide +kernel) (by decide +kernel) (show 5 ≤ 6 from Nat.le_of_ble_eq_true rfl) (show 93 ≤ 97 from Nat.le_of_ble_eq_true rfl) dX5_init_56 (fun q56 cA H hK2 hP hD hS => ?_)
  have ec : cA = E 0 := oh_same hK2 (i := 4) (j := 0) rfl rfl (by intro C h; cases h)
  subst ec
  have hP : va_P D vwCl [(a0, .inr (5, [.ref b1, .ref q10, .ref q26, .ref q37, .ref q48, .null, .null])), (q10, .inr (1, [.int 0, .int 0, .int 0, .int 0, .int 0])), (q26, .inl (E 0, 24, .inl (fun _ => 0))), (q37, .inl (E 0, 24, .inl (fun _ => 0))), (q48, .inl (E 0, 24, .inl (fun _ => 0))), (q56, .inl (E 0, 16, .inl (fun _ => 0)))] H := hP
  have hD : va_D A [(a0, .inr (5, [.ref b1, .ref q10, .ref q26, .ref q37, .ref q48, .null, .null])), (q10, .inr (1, [.int 0, .int 0, .int 0, .int 0, .int 0])), (q26, .inl (E 0, 24, .inl (fun _ => 0))), (q37, .inl (E 0, 24, .inl (fun _ => 0))), (q48, .inl (E 0, 24, .inl (fun _ => 0))), (q56, .inl (E 0, 16, .inl (fun _ => 0)))] := hD
  refine W.widen (k := 5) (n := 93) (Nat.le_refl _) (Nat.le_refl _) ?_
  refine va_putF (D := D) (ci := 5) (v := .ref q56) (ty := (.array .int)) (C := RX5) (T := TX5) (N := 7) hx hb htg ig_5 tyX5 tyX5_ok nmX5 hown hK hP hD hS 0 rfl rfl 5 (by decide) (htg _ q_174) (fun _ h9 => h9) rfl hin rfl (by decide +kernel) rfl rfl (Nat.le_of_ble_eq_true rfl) dX5_init_58 (fun H locs hP hD hS => ?_)
  have hP : va_P D vwCl [(a0, .inr (5, [.ref b1, .ref q10, .ref q26, .ref q37, .ref q48, .ref q56, .null])), (q10, .inr (1, [.int 0, .int 0, .int 0, .int 0, .int 0])), (q26, .inl (E 0, 24, .inl (fun _ => 0))), (q37, .inl (E 0, 24, .inl (fun _ => 0))), (q48, .inl (E 0, 24, .inl (fun _ => 0))), (q56, .inl (E 0, 16, .inl (fun _ => 0)))] H := hP
  have hD : va_D A [(a0, .inr (5, [.ref b1, .ref q10, .ref q26, .ref q37, .ref q48, .ref q56, .null])), (q10, .inr (1, [.int 0, .int 0, .int 0, .int 0, .int 0])), (q26, .inl (E 0, 24, .inl (fun _ => 0))), (q37, .inl (E 0, 24, .inl (fun _ => 0))), (q48, .inl (E 0, 24, .inl (fun _ => 0))), (q56, .inl (E 0, 16, .inl (fun _ => 0)))] := hD
  refine lv_aload_n hx hb dX5_init_61 rfl (lv_at hl 0 rfl) ?_
  refine lv_iconst (v := 4) hx hb dX5_init_62 (by decide) ?_
  refine va_newa (atype := .int) (N' := 4) (a0 := (4, .inl (fun _ => 0))) hx hb (htg _ q_132) rfl hK hP hD hS hA (fun _ => oh_new_i _ _) (by decide +kernel) (by decide +kernel) (by decide +kernel) (show 6 ≤ 6 from Nat.le_of_ble_eq_true rfl) (show 97 ≤ 97 from Nat.le_of_ble_eq_true rfl) dX5_init_63 (fun q63 cA H hK2 hP hD hS => ?_)
  have ec : cA = E 0 := oh_same hK2 (i := 4) (j := 0) rfl rfl (by intro C h; cases h)
  subst ec
  have hP : va_P D vwCl [(a0, .inr (5, [.ref b1, .ref q10, .ref q26, .ref q37, .ref q48, .ref q56, .null])), (q10, .inr (1, [.int 0, .int 0, .int 0, .int 0, .int 0])), (q26, .inl (E 0, 24, .inl (fun _ => 0))), (q37, .inl (E 0, 24, .inl (fun _ => 0))), (q48, .inl (E 0, 24, .inl (fun _ => 0))), (q56, .inl (E 0, 16, .inl (fun _ => 0))), (q63, .inl (E 0, 4, .inl (fun _ => 0)))] H := hP
  have hD : va_D A [(a0, .inr (5, [.ref b1, .ref q10, .ref q26, .ref q37, .ref q48, .ref q56, .null])), (q10, .inr (1, [.int 0, .int 0, .int 0, .int 0, .int 0])), (q26, .inl (E 0, 24, .inl (fun _ => 0))), (q37, .inl (E 0, 24, .inl (fun _ => 0))), (q48, .inl (E 0, 24, .inl (fun _ => 0))), (q56, .inl (E 0, 16, .inl (fun _ => 0))), (q63, .inl (E 0, 4, .inl (fun _ => 0)))] := hD
  refine W.widen (k := 6) (n := 97) (Nat.le_refl _) (Nat.le_refl _) ?_
  refine va_putF (D := D) (ci := 5) (v := .ref q63) (ty := (.array .int)) (C := RX5) (T := TX5) (N := 7) hx hb htg ig_5 tyX5 tyX5_ok nmX5 hown hK hP hD hS 0 rfl rfl 6 (by decide) (htg _ q_175) (fun _ h9 => h9) rfl hin rfl (by decide +kernel) rfl rfl (Nat.le_of_ble_eq_true rfl) dX5_init_65 (fun H locs hP hD hS => ?_)
  have hP : va_P D vwCl [(a0, .inr (5, [.ref b1, .ref q10, .ref q26, .ref q37, .ref q48, .ref q56, .ref q63])), (q10, .inr (1, [.int 0, .int 0, .int 0, .int 0, .int 0])), (q26, .inl (E 0, 24, .inl (fun _ => 0))), (q37, .inl (E 0, 24, .inl (fun _ => 0))), (q48, .inl (E 0, 24, .inl (fun _ => 0))), (q56, .inl (E 0, 16, .inl (fun _ => 0))), (q63, .inl (E 0, 4, .inl (fun _ => 0)))] H := hP
  have hD : va_D A [(a0, .inr (5, [.ref b1, .ref q10, .ref q26, .ref q37, .ref q48, .ref q56, .ref q63])), (q10, .inr (1, [.int 0, .int 0, .int 0, .int 0, .int 0])), (q26, .inl (E 0, 24, .inl (fun _ => 0))), (q37, .inl (E 0, 24, .inl (fun _ => 0))), (q48, .inl (E 0, 24, .inl (fun _ => 0))), (q56, .inl (E 0, 16, .inl (fun _ => 0))), (q63, .inl (E 0, 4, .inl (fun _ => 0)))] := hD
  refine W.widen (k := 6) (n := 97) (show 6 ≤ 6 from Nat.le_of_ble_eq_true rfl) (show 97 ≤ 97 from Nat.le_of_ble_eq_true rfl) ?_
  exact W.vret hx hb hr (fun t ht hW => ⟨⟨(q10, q26, q37, q48, q56, q63), rfl, trivial, ⟨by rw [ht]; exact hP.sub [0, 1, 2, 3, 4, 5, 6] rfl, hD.sub [0, 1, 2, 3, 4, 5, 6] (by decide) rfl⟩⟩, hS.F ht⟩) hS.2.2 dX5_init_68
