set_option maxHeartbeats 4000000 in
set_option maxRecDepth 100000 in
theorem c_X2_init (l : Launch) (D : va_G) (E : Nat → ClassId) (G : Nat → Nat) (sz : Nat) (a0 : Nat) (b1 : Nat) (b2 : Nat) : Met l yX2_init (oh_w yX2_init cX2_init 3 none) ({ frames := 1, cells := 2, slots := 7, locals := 12 }) (oh_Pm D E G [.ref a0, .ref b1, .ref b2] [(a0, .inr (2, [.null, .null, .null, .null]))] sz) (va_Qv (fun (_ : (Nat × Nat)) => True) (oh_B D (va_A [(a0, .inr (2, [.null, .null, .null, .null]))] sz) (fun u => match u with | (q19, q26) => [(a0, .inr (2, [.ref b1, .ref b2, .ref q19, .ref q26])), (q19, .inl (E 0, 4, .inl (fun _ => 0))), (q26, .inl (E 0, 3, .inl (fun _ => 0)))])) (va_A [(a0, .inr (2, [.null, .null, .null, .null]))] sz)) 2 7 (va_A [(a0, .inr (2, [.null, .null, .null, .null]))] sz) := by
  refine Met.ofW (cc := cX2_init) (maxL := 3) (ret := none) (by decide) rfl ?_
  intro p e s m args below meth c s₁ B hml hv
  obtain ⟨rfl, hsz, hP, hK, hD0, hG⟩ := hv
  have hx := B.exec
  have hb := B.bytes
  have hr := B.returns
  have hts := atoms_spec (ws := (oh_w yX2_init cX2_init 3 none)) B.pre
  have htg : ∀ w ∈ oh_t, w.before _ s = true := fun w h => hts w (List.mem_cons_of_mem _ h)
  have hown : s.vm.findClass RX2 = some m.cls := findClass_of_methodNamed B.named
  have hlocks := B.notSynchronized
  have hin : meth.name = "<init>" := (name_of_methodNamed B.named B.method).1
  subst hsz
  have hD := hD0.self (sz := s.heap.size)
  generalize hAe : va_A [(a0, .inr (2, [.null, .null, .null, .null]))] s.heap.size = A at hD hG ⊢
  have hA : ∀ q : Nat, s.heap.size ≤ q → A q := fun q h => by rw [← hAe]; exact Or.inr h
  have hS : va_S A s.heap s.heap [] := va_S.rf
  have hP : va_P D vwCl [(a0, .inr (2, [.null, .null, .null, .null]))] s.heap := hP
  have hl := lv_entry ([.ref a0, .ref b1, .ref b2]) (n := 3) (Nat.le_of_ble_eq_true rfl)
  rw [lg_entry_eq]
  generalize (lg_sl ([.ref a0, .ref b1, .ref b2]) ++ List.replicate (3 - (lg_sl ([.ref a0, .ref b1, .ref b2])).length) Slot.unset).toArray = ls at hl ⊢
  have hl : lv_has ls 3 [(0, .ref a0), (1, .ref b1), (2, .ref b2)] := hl
  refine lv_aload_n hx hb dX2_init_0 rfl (lv_at hl 0 rfl) ?_
  refine W.objInit hx hb hown (htg _ q_243) (htg _ q_87) (htg _ q_88) rfl (by rw [hml]; exact hl.1) rfl dX2_init_1 (Nat.le_of_ble_eq_true rfl) (Nat.le_of_ble_eq_true rfl) ?_
  refine W.eq (g2 := F0 m 4 ls []) rfl ?_
  refine lv_aload_n hx hb dX2_init_4 rfl (lv_at hl 0 rfl) ?_
  refine lv_aload_n hx hb dX2_init_5 rfl (lv_at hl 1 rfl) ?_
  refine va_putF (D := D) (ci := 2) (v := .ref b1) (ty := (.object "OneHeavyLoad$Tape")) (C := RX2) (T := TX2) (N := 4) hx hb htg ig_2 tyX2 tyX2_ok nmX2 hown hK hP hD hS 0 rfl rfl 0 (by decide) (htg _ q_245) (fun _ h9 => h9) rfl hin rfl (by decide +kernel) rfl rfl (Nat.le_of_ble_eq_true rfl) dX2_init_6 (fun H locs hP hD hS => ?_)
  have hP : va_P D vwCl [(a0, .inr (2, [.ref b1, .null, .null, .null]))] H := hP
  have hD : va_D A [(a0, .inr (2, [.ref b1, .null, .null, .null]))] := hD
  refine lv_aload_n hx hb dX2_init_9 rfl (lv_at hl 0 rfl) ?_
  refine lv_aload_n hx hb dX2_init_10 rfl (lv_at hl 2 rfl) ?_
  refine va_putF (D := D) (ci := 2) (v := .ref b2) (ty := (.object "OneHeavyLoad$Land")) (C := RX2) (T := TX2) (N := 4) hx hb htg ig_2 tyX2 tyX2_ok nmX2 hown hK hP hD hS 0 rfl rfl 1 (by decide) (htg _ q_246) (fun _ h9 => h9) rfl hin rfl (by decide +kernel) rfl rfl (Nat.le_of_ble_eq_true rfl) dX2_init_11 (fun H locs hP hD hS => ?_)
  have hP : va_P D vwCl [(a0, .inr (2, [.ref b1, .ref b2, .null, .null]))] H := hP
  have hD : va_D A [(a0, .inr (2, [.ref b1, .ref b2, .null, .null]))] := hD
  refine lv_aload_n hx hb dX2_init_14 rfl (lv_at hl 0 rfl) ?_
  refine va_getsN hx hb hG.2.2.2.1.1 hS hown (va_Nw.use rfl (hG.2.1 ("OneHeavyLoad$Reader", 19, "OneHeavyLoad", "ROOM", "[I", "OneHeavyLoad") (List.mem_of_getElem? (i := 2) rfl))) (fun _ h9 => h9) dX2_init_15 ?_
  refine va_tlen (v := 4) hx hb hG.2.2.2.1.2 hS (by decide) dX2_init_18 ?_
  refine va_newa (atype := .int) (N' := 4) (a0 := (4, .inl (fun _ => 0))) hx hb (htg _ q_132) rfl hK hP hD hS hA (fun _ => oh_new_i _ _) (by decide +kernel) (by decide +kernel) (by decide +kernel) (show 1 ≤ 2 from Nat.le_of_ble_eq_true rfl) (show 4 ≤ 7 from Nat.le_of_ble_eq_true rfl) dX2_init_19 (fun q19 cA H hK2 hP hD hS => ?_)
  have ec : cA = E 0 := oh_same hK2 (i := 4) (j := 0) rfl rfl (by intro C h; cases h)
  subst ec
  have hP : va_P D vwCl [(a0, .inr (2, [.ref b1, .ref b2, .null, .null])), (q19, .inl (E 0, 4, .inl (fun _ => 0)))] H := hP
  have hD : va_D A [(a0, .inr (2, [.ref b1, .ref b2, .null, .null])), (q19, .inl (E 0, 4, .inl (fun _ => 0)))] := hD
  refine W.widen (k := 1) (n := 4) (Nat.le_refl _) (Nat.le_refl _) ?_
  refine va_putF (D := D) (ci := 2) (v := .ref q19) (ty := (.array .int)) (C := RX2) (T := TX2) (N := 4) hx hb htg ig_2 tyX2 tyX2_ok nmX2 hown hK hP hD hS 0 rfl rfl 2 (by decide) (htg _ q_247) (fun _ h9 => h9) rfl hin rfl (by decide +kernel) rfl rfl (Nat.le_of_ble_eq_true rfl) dX2_init_21 (fun H locs hP hD hS => ?_)
  have hP : va_P D vwCl [(a0, .inr (2, [.ref b1, .ref b2, .ref q19, .null])), (q19, .inl (E 0, 4, .inl (fun _ => 0)))] H := hP
  have hD : va_D A [(a0, .inr (2, [.ref b1, .ref b2, .ref q19, .null])), (q19, .inl (E 0, 4, .inl (fun _ => 0)))] := hD
  refine lv_aload_n hx hb dX2_init_24 rfl (lv_at hl 0 rfl) ?_
  refine lv_iconst (v := 3) hx hb dX2_init_25 (by decide) ?_
  refine va_newa (atype := .int) (N' := 3) (a0 := (3, .inl (fun _ => 0))) hx hb (htg _ q_132) rfl hK hP hD hS hA (fun _ => oh_new_i _ _) (by decide +kernel) (by decide +kernel) (by decide +kernel) (show 2 ≤ 2 from Nat.le_of_ble_eq_true rfl) (show 7 ≤ 7 from Nat.le_of_ble_eq_true rfl) dX2_init_26 (fun q26 cA H hK2 hP hD hS => ?_)
  have ec : cA = E 0 := oh_same hK2 (i := 4) (j := 0) rfl rfl (by intro C h; cases h)
  subst ec
  have hP : va_P D vwCl [(a0, .inr (2, [.ref b1, .ref b2, .ref q19, .null])), (q19, .inl (E 0, 4, .inl (fun _ => 0))), (q26, .inl (E 0, 3, .inl (fun _ => 0)))] H := hP
  have hD : va_D A [(a0, .inr (2, [.ref b1, .ref b2, .ref q19, .null])), (q19, .inl (E 0, 4, .inl (fun _ => 0))), (q26, .inl (E 0, 3, .inl (fun _ => 0)))] := hD
  refine W.widen (k := 2) (n := 7) (Nat.le_refl _) (Nat.le_refl _) ?_
  refine va_putF (D := D) (ci := 2) (v := .ref q26) (ty := (.array .int)) (C := RX2) (T := TX2) (N := 4) hx hb htg ig_2 tyX2 tyX2_ok nmX2 hown hK hP hD hS 0 rfl rfl 3 (by decide) (htg _ q_248) (fun _ h9 => h9) rfl hin rfl (by decide +kernel) rfl rfl (Nat.le_of_ble_eq_true rfl) dX2_init_28 (fun H locs hP hD hS => ?_)
  have hP : va_P D vwCl [(a0, .inr (2, [.ref b1, .ref b2, .ref q19, .ref q26])), (q19, .inl (E 0, 4, .inl (fun _ => 0))), (q26, .inl (E 0, 3, .inl (fun _ => 0)))] H := hP
  have hD : va_D A [(a0, .inr (2, [.ref b1, .ref b2, .ref q19, .ref q26])), (q19, .inl (E 0, 4, .inl (fun _ => 0))), (q26, .inl (E 0, 3, .inl (fun _ => 0)))] := hD
  refine W.widen (k := 2) (n := 7) (show 2 ≤ 2 from Nat.le_of_ble_eq_true rfl) (show 7 ≤ 7 from Nat.le_of_ble_eq_true rfl) ?_
  exact W.vret hx hb hr (fun t ht hW => ⟨⟨(q19, q26), rfl, trivial, ⟨by rw [ht]; exact hP.sub [0, 1, 2] rfl, hD.sub [0, 1, 2] (by decide) rfl⟩⟩, hS.F ht⟩) hS.2.2 dX2_init_31
