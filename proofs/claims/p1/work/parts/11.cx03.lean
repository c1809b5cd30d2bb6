set_option maxHeartbeats 4000000 in
set_option maxRecDepth 100000 in
theorem c_X3_init (l : Launch) (D : va_G) (E : Nat → ClassId) (G : Nat → Nat) (sz : Nat) (a0 : Nat) : Met l yX3_init (oh_w yX3_init cX3_init 2 none) ({ frames := 1, cells := 3, slots := 336, locals := 12 }) (oh_Pm D E G [.ref a0] [(a0, .inr (3, [.null, .null, .null]))] sz) (va_Qv (fun (_ : (Nat × Nat × Nat)) => True) (oh_B D (va_A [(a0, .inr (3, [.null, .null, .null]))] sz) (fun u => match u with | (q7, q15, q24) => [(a0, .inr (3, [.ref q7, .ref q15, .ref q24])), (q7, .inl (E 0, 8, .inl (fun _ => (-1)))), (q15, .inl (E 0, 8, .inl (fun _ => 0))), (q24, .inl (E 1, 320, .inr (.inl (fun _ => 0))))])) (va_A [(a0, .inr (3, [.null, .null, .null]))] sz)) 3 336 (va_A [(a0, .inr (3, [.null, .null, .null]))] sz) := by
  refine Met.ofW (cc := cX3_init) (maxL := 2) (ret := none) (by decide) rfl ?_
  intro p e s m args below meth c s₁ B hml hv
  obtain ⟨rfl, hsz, hP, hK, hD0, hG⟩ := hv
  have hx := B.exec
  have hb := B.bytes
  have hr := B.returns
  have hts := atoms_spec (ws := (oh_w yX3_init cX3_init 2 none)) B.pre
  have htg : ∀ w ∈ oh_t, w.before _ s = true := fun w h => hts w (List.mem_cons_of_mem _ h)
  have hown : s.vm.findClass RX3 = some m.cls := findClass_of_methodNamed B.named
  have hlocks := B.notSynchronized
  have hin : meth.name = "<init>" := (name_of_methodNamed B.named B.method).1
  subst hsz
  have hD := hD0.self (sz := s.heap.size)
  generalize hAe : va_A [(a0, .inr (3, [.null, .null, .null]))] s.heap.size = A at hD hG ⊢
  have hA : ∀ q : Nat, s.heap.size ≤ q → A q := fun q h => by rw [← hAe]; exact Or.inr h
  have hS : va_S A s.heap s.heap [] := va_S.rf
  have hP : va_P D vwCl [(a0, .inr (3, [.null, .null, .null]))] s.heap := hP
  have hl := lv_entry ([.ref a0]) (n := 2) (Nat.le_of_ble_eq_true rfl)
  rw [lg_entry_eq]
  generalize (lg_sl ([.ref a0]) ++ List.replicate (2 - (lg_sl ([.ref a0])).length) Slot.unset).toArray = ls at hl ⊢
  have hl : lv_has ls 2 [(0, .ref a0)] := hl
  refine lv_aload_n hx hb dX3_init_0 rfl (lv_at hl 0 rfl) ?_
  refine W.objInit hx hb hown (htg _ q_197) (htg _ q_87) (htg _ q_88) rfl (by rw [hml]; exact hl.1) rfl dX3_init_1 (Nat.le_of_ble_eq_true rfl) (Nat.le_of_ble_eq_true rfl) ?_
  refine W.eq (g2 := F0 m 4 ls []) rfl ?_
  refine lv_aload_n hx hb dX3_init_4 rfl (lv_at hl 0 rfl) ?_
  refine lv_bipush (v := 8) hx hb dX3_init_5 (by decide) ?_
  refine va_newa (atype := .int) (N' := 8) (a0 := (8, .inl (fun _ => 0))) hx hb (htg _ q_132) rfl hK hP hD hS hA (fun _ => oh_new_i _ _) (by decide +kernel) (by decide +kernel) (by decide +kernel) (show 1 ≤ 3 from Nat.le_of_ble_eq_true rfl) (show 8 ≤ 336 from Nat.le_of_ble_eq_true rfl) dX3_init_7 (fun q7 cA H hK2 hP hD hS => ?_)
  have ec : cA = E 0 := oh_same hK2 (i := 4) (j := 0) rfl rfl (by intro C h; cases h)
  subst ec
  have hP : va_P D vwCl [(a0, .inr (3, [.null, .null, .null])), (q7, .inl (E 0, 8, .inl (fun _ => 0)))] H := hP
  have hD : va_D A [(a0, .inr (3, [.null, .null, .null])), (q7, .inl (E 0, 8, .inl (fun _ => 0)))] := hD
  refine W.widen (k := 1) (n := 8) (Nat.le_refl _) (Nat.le_refl _) ?_
  refine va_putF (D := D) (ci := 3) (v := .ref q7) (ty := (.array .int)) (C := RX3) (T := TX3) (N := 3) hx hb htg ig_3 tyX3 tyX3_ok nmX3 hown hK hP hD hS 0 rfl rfl 0 (by decide) (htg _ q_198) (fun _ h9 => h9) rfl hin rfl (by decide +kernel) rfl rfl (Nat.le_of_ble_eq_true rfl) dX3_init_9 (fun H locs hP hD hS => ?_)
  have hP : va_P D vwCl [(a0, .inr (3, [.ref q7, .null, .null])), (q7, .inl (E 0, 8, .inl (fun _ => 0)))] H := hP
  have hD : va_D A [(a0, .inr (3, [.ref q7, .null, .null])), (q7, .inl (E 0, 8, .inl (fun _ => 0)))] := hD
  refine lv_aload_n hx hb dX3_init_12 rfl (lv_at hl 0 rfl) ?_
  refine lv_bipush (v := 8) hx hb dX3_init_13 (by decide) ?_
  refine va_newa (atype := .int) (N' := 8) (a0 := (8, .inl (fun _ => 0))) hx hb (htg _ q_132) rfl hK hP hD hS hA (fun _ => oh_new_i _ _) (by decide +kernel) (by decide +kernel) (by decide +kernel) (show 2 ≤ 3 from Nat.le_of_ble_eq_true rfl) (show 16 ≤ 336 from Nat.le_of_ble_eq_true rfl) dX3_init_15 (fun q15 cA H hK2 hP hD hS => ?_)
  have ec : cA = E 0 := oh_same hK2 (i := 4) (j := 0) rfl rfl (by intro C h; cases h)
  subst ec
  have hP : va_P D vwCl [(a0, .inr (3, [.ref q7, .null, .null])), (q7, .inl (E 0, 8, .inl (fun _ => 0))), (q15, .inl (E 0, 8, .inl (fun _ => 0)))] H := hP
  have hD : va_D A [(a0, .inr (3, [.ref q7, .null, .null])), (q7, .inl (E 0, 8, .inl (fun _ => 0))), (q15, .inl (E 0, 8, .inl (fun _ => 0)))] := hD
  refine W.widen (k := 2) (n := 16) (Nat.le_refl _) (Nat.le_refl _) ?_
  refine va_putF (D := D) (ci := 3) (v := .ref q15) (ty := (.array .int)) (C := RX3) (T := TX3) (N := 3) hx hb htg ig_3 tyX3 tyX3_ok nmX3 hown hK hP hD hS 0 rfl rfl 1 (by decide) (htg _ q_200) (fun _ h9 => h9) rfl hin rfl (by decide +kernel) rfl rfl (Nat.le_of_ble_eq_true rfl) dX3_init_17 (fun H locs hP hD hS => ?_)
  have hP : va_P D vwCl [(a0, .inr (3, [.ref q7, .ref q15, .null])), (q7, .inl (E 0, 8, .inl (fun _ => 0))), (q15, .inl (E 0, 8, .inl (fun _ => 0)))] H := hP
  have hD : va_D A [(a0, .inr (3, [.ref q7, .ref q15, .null])), (q7, .inl (E 0, 8, .inl (fun _ => 0))), (q15, .inl (E 0, 8, .inl (fun _ => 0)))] := hD
  refine lv_aload_n hx hb dX3_init_20 rfl (lv_at hl 0 rfl) ?_
  refine lv_sipush (v := 320) hx hb dX3_init_21 (by decide) ?_
  refine va_newa (atype := .long) (N' := 320) (a0 := (320, .inr (.inl (fun _ => 0)))) hx hb (htg _ q_210) rfl hK hP hD hS hA (fun _ => oh_new_l _ _) (by decide +kernel) (by decide +kernel) (by decide +kernel) (show 3 ≤ 3 from Nat.le_of_ble_eq_true rfl) (show 336 ≤ 336 from Nat.le_of_ble_eq_true rfl) dX3_init_24 (fun q24 cA H hK2 hP hD hS => ?_)
  have ec : cA = E 1 := oh_same hK2 (i := 4) (j := 1) rfl rfl (by intro C h; cases h)
  subst ec
  have hP : va_P D vwCl [(a0, .inr (3, [.ref q7, .ref q15, .null])), (q7, .inl (E 0, 8, .inl (fun _ => 0))), (q15, .inl (E 0, 8, .inl (fun _ => 0))), (q24, .inl (E 1, 320, .inr (.inl (fun _ => 0))))] H := hP
  have hD : va_D A [(a0, .inr (3, [.ref q7, .ref q15, .null])), (q7, .inl (E 0, 8, .inl (fun _ => 0))), (q15, .inl (E 0, 8, .inl (fun _ => 0))), (q24, .inl (E 1, 320, .inr (.inl (fun _ => 0))))] := hD
  refine W.widen (k := 3) (n := 336) (Nat.le_refl _) (Nat.le_refl _) ?_
  refine va_putF (D := D) (ci := 3) (v := .ref q24) (ty := (.array .long)) (C := RX3) (T := TX3) (N := 3) hx hb htg ig_3 tyX3 tyX3_ok nmX3 hown hK hP hD hS 0 rfl rfl 2 (by decide) (htg _ q_202) (fun _ h9 => h9) rfl hin rfl (by decide +kernel) rfl rfl (Nat.le_of_ble_eq_true rfl) dX3_init_26 (fun H locs hP hD hS => ?_)
  have hP : va_P D vwCl [(a0, .inr (3, [.ref q7, .ref q15, .ref q24])), (q7, .inl (E 0, 8, .inl (fun _ => 0))), (q15, .inl (E 0, 8, .inl (fun _ => 0))), (q24, .inl (E 1, 320, .inr (.inl (fun _ => 0))))] H := hP
  have hD : va_D A [(a0, .inr (3, [.ref q7, .ref q15, .ref q24])), (q7, .inl (E 0, 8, .inl (fun _ => 0))), (q15, .inl (E 0, 8, .inl (fun _ => 0))), (q24, .inl (E 1, 320, .inr (.inl (fun _ => 0))))] := hD
  refine lv_iconst (v := 0) hx hb dX3_init_29 (by decide) ?_
  refine lv_istore_n (lv' := [(1, .int 0), (0, .ref a0)]) hx hb dX3_init_30 rfl hl (by decide) rfl (fun ls hl => ?_)
  refine lv_iload_n hx hb dX3_init_31 rfl (lv_at hl 0 rfl) ?_
  refine lv_bipush (v := 8) hx hb dX3_init_32 (by decide) ?_
  refine lv_icmp_ge (tgt := 50) hx hb dX3_init_34 (by decide) (fun c => absurd c (show ¬ (8 ≤ (0 : Int32)) from by decide)) (fun _ => ?_)
  refine lv_aload_n hx hb dX3_init_37 rfl (lv_at hl 1 rfl) ?_
  refine va_get (D := D) (ci := 3) (v := .ref q7) (C := RX3) (T := TX3) (N := 3) hx hb htg ig_3 hown hK hP 0 rfl rfl 0 (by decide) (htg _ q_198) (fun _ h9 => h9) rfl dX3_init_38 ?_
  refine lv_iload_n hx hb dX3_init_41 rfl (lv_at hl 0 rfl) ?_
  refine lv_iconst (v := (-1)) hx hb dX3_init_42 (by decide) ?_
  refine va_iast hx hb hK hP hD hS 1 0 rfl rfl (show vp_in 0 8 by unfold vp_in; decide) dX3_init_43 (fun H locs hP hD hS => ?_)
  have hP : va_P D vwCl [(a0, .inr (3, [.ref q7, .ref q15, .ref q24])), (q7, .inl (E 0, 8, .inl (upd (fun _ => 0) 0 (-1)))), (q15, .inl (E 0, 8, .inl (fun _ => 0))), (q24, .inl (E 1, 320, .inr (.inl (fun _ => 0))))] H := hP
  have hD : va_D A [(a0, .inr (3, [.ref q7, .ref q15, .ref q24])), (q7, .inl (E 0, 8, .inl (upd (fun _ => 0) 0 (-1)))), (q15, .inl (E 0, 8, .inl (fun _ => 0))), (q24, .inl (E 1, 320, .inr (.inl (fun _ => 0))))] := hD
  refine lv_iinc (v := 1) (lv' := [(1, .int 1), (0, .ref a0)]) hx hb dX3_init_44 hl (k := 0) rfl (by decide) (by decide) rfl (fun ls hl => ?_)
  refine lv_goto (tgt := 31) hx hb dX3_init_47 (by decide) ?_
  refine lv_iload_n hx hb dX3_init_31 rfl (lv_at hl 0 rfl) ?_
  refine lv_bipush (v := 8) hx hb dX3_init_32 (by decide) ?_
  refine lv_icmp_ge (tgt := 50) hx hb dX3_init_34 (by decide) (fun c => absurd c (show ¬ (8 ≤ (1 : Int32)) from by decide)) (fun _ => ?_)
  refine lv_aload_n hx hb dX3_init_37 rfl (lv_at hl 1 rfl) ?_
  refine va_get (D := D) (ci := 3) (v := .ref q7) (C := RX3) (T := TX3) (N := 3) hx hb htg ig_3 hown hK hP 0 rfl rfl 0 (by decide) (htg _ q_198) (fun _ h9 => h9) rfl dX3_init_38 ?_
  refine lv_iload_n hx hb dX3_init_41 rfl (lv_at hl 0 rfl) ?_
  refine lv_iconst (v := (-1)) hx hb dX3_init_42 (by decide) ?_
  refine va_iast hx hb hK hP hD hS 1 0 rfl rfl (show vp_in 1 8 by unfold vp_in; decide) dX3_init_43 (fun H locs hP hD hS => ?_)
  have hP : va_P D vwCl [(a0, .inr (3, [.ref q7, .ref q15, .ref q24])), (q7, .inl (E 0, 8, .inl (upd (upd (fun _ => 0) 0 (-1)) 1 (-1)))), (q15, .inl (E 0, 8, .inl (fun _ => 0))), (q24, .inl (E 1, 320, .inr (.inl (fun _ => 0))))] H := hP
  have hD : va_D A [(a0, .inr (3, [.ref q7, .ref q15, .ref q24])), (q7, .inl (E 0, 8, .inl (upd (upd (fun _ => 0) 0 (-1)) 1 (-1)))), (q15, .inl (E 0, 8, .inl (fun _ => 0))), (q24, .inl (E 1, 320, .inr (.inl (fun _ => 0))))] := hD
  refine lv_iinc (v := 2) (lv' := [(1, .int 2), (0, .ref a0)]) hx hb dX3_init_44 hl (k := 0) rfl (by decide) (by decide) rfl (fun ls hl => ?_)
  refine lv_goto (tgt := 31) hx hb dX3_init_47 (by decide) ?_
  refine lv_iload_n hx hb dX3_init_31 rfl (lv_at hl 0 rfl) ?_
  refine lv_bipush (v := 8) hx hb dX3_init_32 (by decide) ?_
  refine lv_icmp_ge (tgt := 50) hx hb dX3_init_34 (by decide) (fun c => absurd c (show ¬ (8 ≤ (2 : Int32)) from by decide)) (fun _ => ?_)
  refine lv_aload_n hx hb dX3_init_37 rfl (lv_at hl 1 rfl) ?_
  refine va_get (D := D) (ci := 3) (v := .ref q7) (C := RX3) (T := TX3) (N := 3) hx hb htg ig_3 hown hK hP 0 rfl rfl 0 (by decide) (htg _ q_198) (fun _ h9 => h9) rfl dX3_init_38 ?_
  refine lv_iload_n hx hb dX3_init_41 rfl (lv_at hl 0 rfl) ?_
  refine lv_iconst (v := (-1)) hx hb dX3_init_42 (by decide) ?_
  refine va_iast hx hb hK hP hD hS 1 0 rfl rfl (show vp_in 2 8 by unfold vp_in; decide) dX3_init_43 (fun H locs hP hD hS => ?_)
  have hP : va_P D vwCl [(a0, .inr (3, [.ref q7, .ref q15, .ref q24])), (q7, .inl (E 0, 8, .inl (upd (upd (upd (fun _ => 0) 0 (-1)) 1 (-1)) 2 (-1)))), (q15, .inl (E 0, 8, .inl (fun _ => 0))), (q24, .inl (E 1, 320, .inr (.inl (fun _ => 0))))] H := hP
  have hD : va_D A [(a0, .inr (3, [.ref q7, .ref q15, .ref q24])), (q7, .inl (E 0, 8, .inl (upd (upd (upd (fun _ => 0) 0 (-1)) 1 (-1)) 2 (-1)))), (q15, .inl (E 0, 8, .inl (fun _ => 0))), (q24, .inl (E 1, 320, .inr (.inl (fun _ => 0))))] := hD
  refine lv_iinc (v := 3) (lv' := [(1, .int 3), (0, .ref a0)]) hx hb dX3_init_44 hl (k := 0) rfl (by decide) (by decide) rfl (fun ls hl => ?_)
  refine lv_goto (tgt := 31) hx hb dX3_init_47 (by decide) ?_
  refine lv_iload_n hx hb dX3_init_31 rfl (lv_at hl 0 rfl) ?_
  refine lv_bipush (v := 8) hx hb dX3_init_32 (by decide) ?_
  refine lv_icmp_ge (tgt := 50) hx hb dX3_init_34 (by decide) (fun c => absurd c (show ¬ (8 ≤ (3 : Int32)) from by decide)) (fun _ => ?_)
  refine lv_aload_n hx hb dX3_init_37 rfl (lv_at hl 1 rfl) ?_
  refine va_get (D := D) (ci := 3) (v := .ref q7) (C := RX3) (T := TX3) (N := 3) hx hb htg ig_3 hown hK hP 0 rfl rfl 0 (by decide) (htg _ q_198) (fun _ h9 => h9) rfl dX3_init_38 ?_
  refine lv_iload_n hx hb dX3_init_41 rfl (lv_at hl 0 rfl) ?_
  refine lv_iconst (v := (-1)) hx hb dX3_init_42 (by decide) ?_
  refine va_iast hx hb hK hP hD hS 1 0 rfl rfl (show vp_in 3 8 by unfold vp_in; decide) dX3_init_43 (fun H locs hP hD hS => ?_)
  have hP : va_P D vwCl [(a0, .inr (3, [.ref q7, .ref q15, .ref q24])), (q7, .inl (E 0, 8, .inl (upd (upd (upd (upd (fun _ => 0) 0 (-1)) 1 (-1)) 2 (-1)) 3 (-1)))), (q15, .inl (E 0, 8, .inl (fun _ => 0))), (q24, .inl (E 1, 320, .inr (.inl (fun _ => 0))))] H := hP
  have hD : va_D A [(a0, .inr (3, [.ref q7, .ref q15, .ref q24])), (q7, .inl (E 0, 8, .inl (upd (upd (upd (upd (fun _ => 0) 0 (-1)) 1 (-1)) 2 (-1)) 3 (-1)))), (q15, .inl (E 0, 8, .inl (fun _ => 0))), (q24, .inl (E 1, 320, .inr (.inl (fun _ => 0))))] := hD
  refine lv_iinc (v := 4) (lv' := [(1, .int 4), (0, .ref a0)]) hx hb dX3_init_44 hl (k := 0) rfl (by decide) (by decide) rfl (fun ls hl => ?_)
  refine lv_goto (tgt := 31) hx hb dX3_init_47 (by decide) ?_
  refine lv_iload_n hx hb dX3_init_31 rfl (lv_at hl 0 rfl) ?_
  refine lv_bipush (v := 8) hx hb dX3_init_32 (by decide) ?_
  refine lv_icmp_ge (tgt := 50) hx hb dX3_init_34 (by decide) (fun c => absurd c (show ¬ (8 ≤ (4 : Int32)) from by decide)) (fun _ => ?_)
  refine lv_aload_n hx hb dX3_init_37 rfl (lv_at hl 1 rfl) ?_
  refine va_get (D := D) (ci := 3) (v := .ref q7) (C := RX3) (T := TX3) (N := 3) hx hb htg ig_3 hown hK hP 0 rfl rfl 0 (by decide) (htg _ q_198) (fun _ h9 => h9) rfl dX3_init_38 ?_
  refine lv_iload_n hx hb dX3_init_41 rfl (lv_at hl 0 rfl) ?_
  refine lv_iconst (v := (-1)) hx hb dX3_init_42 (by decide) ?_
  refine va_iast hx hb hK hP hD hS 1 0 rfl rfl (show vp_in 4 8 by unfold vp_in; decide) dX3_init_43 (fun H locs hP hD hS => ?_)
  have hP : va_P D vwCl [(a0, .inr (3, [.ref q7, .ref q15, .ref q24])), (q7, .inl (E 0, 8, .inl (upd (upd (upd (upd (upd (fun _ => 0) 0 (-1)) 1 (-1)) 2 (-1)) 3 (-1)) 4 (-1)))), (q15, .inl (E 0, 8, .inl (fun _ => 0))), (q24, .inl (E 1, 320, .inr (.inl (fun _ => 0))))] H := hP
  have hD : va_D A [(a0, .inr (3, [.ref q7, .ref q15, .ref q24])), (q7, .inl (E 0, 8, .inl (upd (upd (upd (upd (upd (fun _ => 0) 0 (-1)) 1 (-1)) 2 (-1)) 3 (-1)) 4 (-1)))), (q15, .inl (E 0, 8, .inl (fun _ => 0))), (q24, .inl (E 1, 320, .inr (.inl (fun _ => 0))))] := hD
  refine lv_iinc (v := 5) (lv' := [(1, .int 5), (0, .ref a0)]) hx hb dX3_init_44 hl (k := 0) rfl (by decide) (by decide) rfl (fun ls hl => ?_)
  refine lv_goto (tgt := 31) hx hb dX3_init_47 (by decide) ?_
  refine lv_iload_n hx hb dX3_init_31 rfl (lv_at hl 0 rfl) ?_
  refine lv_bipush (v := 8) hx hb dX3_init_32 (by decide) ?_
  refine lv_icmp_ge (tgt := 50) hx hb dX3_init_34 (by decide) (fun c => absurd c (show ¬ (8 ≤ (5 : Int32)) from by decide)) (fun _ => ?_)
  refine lv_aload_n hx hb dX3_init_37 rfl (lv_at hl 1 rfl) ?_
  refine va_get (D := D) (ci := 3) (v := .ref q7) (C := RX3) (T := TX3) (N := 3) hx hb htg ig_3 hown hK hP 0 rfl rfl 0 (by decide) (htg _ q_198) (fun _ h9 => h9) rfl dX3_init_38 ?_
  refine lv_iload_n hx hb dX3_init_41 rfl (lv_at hl 0 rfl) ?_
  refine lv_iconst (v := (-1)) hx hb dX3_init_42 (by decide) ?_
  refine va_iast hx hb hK hP hD hS 1 0 rfl rfl (show vp_in 5 8 by unfold vp_in; decide) dX3_init_43 (fun H locs hP hD hS => ?_)
  have hP : va_P D vwCl [(a0, .inr (3, [.ref q7, .ref q15, .ref q24])), (q7, .inl (E 0, 8, .inl (upd (upd (upd (upd (upd (upd (fun _ => 0) 0 (-1)) 1 (-1)) 2 (-1)) 3 (-1)) 4 (-1)) 5 (-1)))), (q15, .inl (E 0, 8, .inl (fun _ => 0))), (q24, .inl (E 1, 320, .inr (.inl (fun _ => 0))))] H := hP
  have hD : va_D A [(a0, .inr (3, [.ref q7, .ref q15, .ref q24])), (q7, .inl (E 0, 8, .inl (upd (upd (upd (upd (upd (upd (fun _ => 0) 0 (-1)) 1 (-1)) 2 (-1)) 3 (-1)) 4 (-1)) 5 (-1)))), (q15, .inl (E 0, 8, .inl (fun _ => 0))), (q24, .inl (E 1, 320, .inr (.inl (fun _ => 0))))] := hD
  refine lv_iinc (v := 6) (lv' := [(1, .int 6), (0, .ref a0)]) hx hb dX3_init_44 hl (k := 0) rfl (by decide) (by decide) rfl (fun ls hl => ?_)
  refine lv_goto (tgt := 31) hx hb dX3_init_47 (by decide) ?_
  refine lv_iload_n hx hb dX3_init_31 rfl (lv_at hl 0 rfl) ?_
  refine lv_bipush (v := 8) hx hb dX3_init_32 (by decide) ?_
  refine lv_icmp_ge (tgt := 50) hx hb dX3_init_34 (by decide) (fun c => absurd c (show ¬ (8 ≤ (6 : Int32)) from by decide)) (fun _ => ?_)
  refine lv_aload_n hx hb dX3_init_37 rfl (lv_at hl 1 rfl) ?_
  refine va_get (D := D) (ci := 3) (v := .ref q7) (C := RX3) (T := TX3) (N := 3) hx hb htg ig_3 hown hK hP 0 rfl rfl 0 (by decide) (htg _ q_198) (fun _ h9 => h9) rfl dX3_init_38 ?_
  refine lv_iload_n hx hb dX3_init_41 rfl (lv_at hl 0 rfl) ?_
  refine lv_iconst (v := (-1)) hx hb dX3_init_42 (by decide) ?_
  refine va_iast hx hb hK hP hD hS 1 0 rfl rfl (show vp_in 6 8 by unfold vp_in; decide) dX3_init_43 (fun H locs hP hD hS => ?_)
  have hP : va_P D vwCl [(a0, .inr (3, [.ref q7, .ref q15, .ref q24])), (q7, .inl (E 0, 8, .inl (upd (upd (upd (upd (upd (upd (upd (fun _ => 0) 0 (-1)) 1 (-1)) 2 (-1)) 3 (-1)) 4 (-1)) 5 (-1)) 6 (-1)))), (q15, .inl (E 0, 8, .inl (fun _ => 0))), (q24, .inl (E 1, 320, .inr (.inl (fun _ => 0))))] H := hP
  have hD : va_D A [(a0, .inr (3, [.ref q7, .ref q15, .ref q24])), (q7, .inl (E 0, 8, .inl (upd (upd (upd (upd (upd (upd (upd (fun _ => 0) 0 (-1)) 1 (-1)) 2 (-1)) 3 (-1)) 4 (-1)) 5 (-1)) 6 (-1)))), (q15, .inl (E 0, 8, .inl (fun _ => 0))), (q24, .inl (E 1, 320, .inr (.inl (fun _ => 0))))] := hD
  refine lv_iinc (v := 7) (lv' := [(1, .int 7), (0, .ref a0)]) hx hb dX3_init_44 hl (k := 0) rfl (by decide) (by decide) rfl (fun ls hl => ?_)
  refine lv_goto (tgt := 31) hx hb dX3_init_47 (by decide) ?_
  refine lv_iload_n hx hb dX3_init_31 rfl (lv_at hl 0 rfl) ?_
  refine lv_bipush (v := 8) hx hb dX3_init_32 (by decide) ?_
  refine lv_icmp_ge (tgt := 50) hx hb dX3_init_34 (by decide) (fun c => absurd c (show ¬ (8 ≤ (7 : Int32)) from by decide)) (fun _ => ?_)
  refine lv_aload_n hx hb dX3_init_37 rfl (lv_at hl 1 rfl) ?_
  refine va_get (D := D) (ci := 3) (v := .ref q7) (C := RX3) (T := TX3) (N := 3) hx hb htg ig_3 hown hK hP 0 rfl rfl 0 (by decide) (htg _ q_198) (fun _ h9 => h9) rfl dX3_init_38 ?_
  refine lv_iload_n hx hb dX3_init_41 rfl (lv_at hl 0 rfl) ?_
  refine lv_iconst (v := (-1)) hx hb dX3_init_42 (by decide) ?_
  refine va_iast hx hb hK hP hD hS 1 0 rfl rfl (show vp_in 7 8 by unfold vp_in; decide) dX3_init_43 (fun H locs hP hD hS => ?_)
  have hP : va_P D vwCl [(a0, .inr (3, [.ref q7, .ref q15, .ref q24])), (q7, .inl (E 0, 8, .inl (upd (upd (upd (upd (upd (upd (upd (upd (fun _ => 0) 0 (-1)) 1 (-1)) 2 (-1)) 3 (-1)) 4 (-1)) 5 (-1)) 6 (-1)) 7 (-1)))), (q15, .inl (E 0, 8, .inl (fun _ => 0))), (q24, .inl (E 1, 320, .inr (.inl (fun _ => 0))))] H := hP
  have hD : va_D A [(a0, .inr (3, [.ref q7, .ref q15, .ref q24])), (q7, .inl (E 0, 8, .inl (upd (upd (upd (upd (upd (upd (upd (upd (fun _ => 0) 0 (-1)) 1 (-1)) 2 (-1)) 3 (-1)) 4 (-1)) 5 (-1)) 6 (-1)) 7 (-1)))), (q15, .inl (E 0, 8, .inl (fun _ => 0))), (q24, .inl (E 1, 320, .inr (.inl (fun _ => 0))))] := hD
  refine lv_iinc (v := 8) (lv' := [(1, .int 8), (0, .ref a0)]) hx hb dX3_init_44 hl (k := 0) rfl (by decide) (by decide) rfl (fun ls hl => ?_)
  refine lv_goto (tgt := 31) hx hb dX3_init_47 (by decide) ?_
  refine lv_iload_n hx hb dX3_init_31 rfl (lv_at hl 0 rfl) ?_
  refine lv_bipush (v := 8) hx hb dX3_init_32 (by decide) ?_
  refine lv_icmp_ge (tgt := 50) hx hb dX3_init_34 (by decide) (fun _ => ?_) (fun c => absurd (show 8 ≤ (8 : Int32) from by decide) c)
  have hP := oh_rwi (k := 1) (g := fun _ => (-1)) rfl (by intro j hj; rcases (show j = 0 ∨ j = 1 ∨ j = 2 ∨ j = 3 ∨ j = 4 ∨ j = 5 ∨ j = 6 ∨ j = 7 by omega) with rfl | rfl | rfl | rfl | rfl | rfl | rfl | rfl <;> rfl) hP
  have hD := oh_rwD (k := 1) (a := q7) (y := .inl (E 0, 8, .inl (fun _ => (-1)))) rfl hD
  have hP : va_P D vwCl [(a0, .inr (3, [.ref q7, .ref q15, .ref q24])), (q7, .inl (E 0, 8, .inl (fun _ => (-1)))), (q15, .inl (E 0, 8, .inl (fun _ => 0))), (q24, .inl (E 1, 320, .inr (.inl (fun _ => 0))))] H := hP
  have hD : va_D A [(a0, .inr (3, [.ref q7, .ref q15, .ref q24])), (q7, .inl (E 0, 8, .inl (fun _ => (-1)))), (q15, .inl (E 0, 8, .inl (fun _ => 0))), (q24, .inl (E 1, 320, .inr (.inl (fun _ => 0))))] := hD
  refine W.widen (k := 3) (n := 336) (show 3 ≤ 3 from Nat.le_of_ble_eq_true rfl) (show 336 ≤ 336 from Nat.le_of_ble_eq_true rfl) ?_
  exact W.vret hx hb hr (fun t ht hW => ⟨⟨(q7, q15, q24), rfl, trivial, ⟨by rw [ht]; exact hP.sub [0, 1, 2, 3] rfl, hD.sub [0, 1, 2, 3] (by decide) rfl⟩⟩, hS.F ht⟩) hS.2.2 dX3_init_50
