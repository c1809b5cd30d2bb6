def fX7_ask (v_a : Int32) (v_b : Int32) : Int32 :=
  if (fX7_in (Int32.toInt64 v_a) 0 2) = 0 then (-2) else if v_a = 0 then (if (fX7_in (Int32.toInt64 v_b) 0 900) = 0 then (-2) else (upd (upd (upd (fun _ => 0) 0 100) 1 2) 2 0) (v_a).toNatClampNeg) else if v_a = 1 then (if (fX7_in (Int32.toInt64 v_b) 0 99) = 0 then (-2) else (upd (upd (upd (fun _ => 0) 0 100) 1 2) 2 0) (v_a).toNatClampNeg) else if (fX7_in (Int32.toInt64 v_b) 0 1) = 0 then (-2) else (upd (upd (upd (fun _ => 0) 0 100) 1 2) 2 0) (v_a).toNatClampNeg
set_option maxHeartbeats 4000000 in
set_option maxRecDepth 100000 in
theorem c_X7_ask (l : Launch) (D : va_G) (E : Nat → ClassId) (G : Nat → Nat) (sz : Nat) (a0 : Nat) (v_a : Int32) (v_b : Int32) (a0_shelf : Nat) (a0_rowSort : Nat) (a0_rowSize : Nat) (a0_rows : Nat) (a0_moved : Nat) (a0_shown : Nat) (a0_tape : Nat) (a0_refused : Nat) (a0_road : Nat) (a0_bridge : Nat) (a0_waggon : Nat) (a0_part : Nat) (a0_asked : Nat) (a0_under : Nat) (a0_far : Nat) : Met l yX7_ask (oh_w yX7_ask cX7_ask 4 (some .int)) ({ frames := 1, cells := 0, slots := 0, locals := 25 }) (oh_Pm D E G [.ref a0, .int v_a, .int v_b] [(a0, .inr (7, [.ref a0_shelf, .ref a0_rowSort, .ref a0_rowSize, .ref a0_rows, .ref a0_moved, .ref a0_shown, .ref a0_tape, .int 0, .ref a0_refused, .int 0, .ref a0_road, .int 0, .ref a0_bridge, .int 0, .ref a0_waggon, .int 0, .ref a0_part, .ref a0_asked, .ref a0_under, .int 0, .null, .int 0, .int 0, .int 0, .long 0, .int 0, .int 0, .ref a0_far, .int 0])), (a0_asked, .inl (E 0, 3, .inl (upd (upd (upd (fun _ => 0) 0 100) 1 2) 2 0))), (a0_refused, .inl (E 0, 8, .inl (fun _ => 0)))] sz) (va_Qi (fun r (_ : Unit) => r = fX7_ask v_a v_b) (oh_B D (va_A [(a0, .inr (7, [.ref a0_shelf, .ref a0_rowSort, .ref a0_rowSize, .ref a0_rows, .ref a0_moved, .ref a0_shown, .ref a0_tape, .int 0, .ref a0_refused, .int 0, .ref a0_road, .int 0, .ref a0_bridge, .int 0, .ref a0_waggon, .int 0, .ref a0_part, .ref a0_asked, .ref a0_under, .int 0, .null, .int 0, .int 0, .int 0, .long 0, .int 0, .int 0, .ref a0_far, .int 0])), (a0_asked, .inl (E 0, 3, .inl (upd (upd (upd (fun _ => 0) 0 100) 1 2) 2 0))), (a0_refused, .inl (E 0, 8, .inl (fun _ => 0)))] sz) (fun _ => [])) (va_A [(a0, .inr (7, [.ref a0_shelf, .ref a0_rowSort, .ref a0_rowSize, .ref a0_rows, .ref a0_moved, .ref a0_shown, .ref a0_tape, .int 0, .ref a0_refused, .int 0, .ref a0_road, .int 0, .ref a0_bridge, .int 0, .ref a0_waggon, .int 0, .ref a0_part, .ref a0_asked, .ref a0_under, .int 0, .null, .int 0, .int 0, .int 0, .long 0, .int 0, .int 0, .ref a0_far, .int 0])), (a0_asked, .inl (E 0, 3, .inl (upd (upd (upd (fun _ => 0) 0 100) 1 2) 2 0))), (a0_refused, .inl (E 0, 8, .inl (fun _ => 0)))] sz)) 0 0 (va_A [(a0, .inr (7, [.ref a0_shelf, .ref a0_rowSort, .ref a0_rowSize, .ref a0_rows, .ref a0_moved, .ref a0_shown, .ref a0_tape, .int 0, .ref a0_refused, .int 0, .ref a0_road, .int 0, .ref a0_bridge, .int 0, .ref a0_waggon, .int 0, .ref a0_part, .ref a0_asked, .ref a0_under, .int 0, .null, .int 0, .int 0, .int 0, .long 0, .int 0, .int 0, .ref a0_far, .int 0])), (a0_asked, .inl (E 0, 3, .inl (upd (upd (upd (fun _ => 0) 0 100) 1 2) 2 0))), (a0_refused, .inl (E 0, 8, .inl (fun _ => 0)))] sz) := by
  refine Met.ofW (cc := cX7_ask) (maxL := 4) (ret := (some .int)) (by decide) rfl ?_
  intro p e s m args below meth c s₁ B hml hv
  obtain ⟨rfl, hsz, hP, hK, hD0, hG⟩ := hv
  have hx := B.exec
  have hb := B.bytes
  have hr := B.returns
  have hts := atoms_spec (ws := (oh_w yX7_ask cX7_ask 4 (some .int))) B.pre
  have htg : ∀ w ∈ oh_t, w.before _ s = true := fun w h => hts w (List.mem_cons_of_mem _ h)
  have hown : s.vm.findClass RX7 = some m.cls := findClass_of_methodNamed B.named
  have hlocks := B.notSynchronized
  subst hsz
  have hD := hD0.self (sz := s.heap.size)
  generalize hAe : va_A [(a0, .inr (7, [.ref a0_shelf, .ref a0_rowSort, .ref a0_rowSize, .ref a0_rows, .ref a0_moved, .ref a0_shown, .ref a0_tape, .int 0, .ref a0_refused, .int 0, .ref a0_road, .int 0, .ref a0_bridge, .int 0, .ref a0_waggon, .int 0, .ref a0_part, .ref a0_asked, .ref a0_under, .int 0, .null, .int 0, .int 0, .int 0, .long 0, .int 0, .int 0, .ref a0_far, .int 0])), (a0_asked, .inl (E 0, 3, .inl (upd (upd (upd (fun _ => 0) 0 100) 1 2) 2 0))), (a0_refused, .inl (E 0, 8, .inl (fun _ => 0)))] s.heap.size = A at hD hG ⊢
  have hA : ∀ q : Nat, s.heap.size ≤ q → A q := fun q h => by rw [← hAe]; exact Or.inr h
  have hS : va_S A s.heap s.heap [] := va_S.rf
  have hP : va_P D vwCl [(a0, .inr (7, [.ref a0_shelf, .ref a0_rowSort, .ref a0_rowSize, .ref a0_rows, .ref a0_moved, .ref a0_shown, .ref a0_tape, .int 0, .ref a0_refused, .int 0, .ref a0_road, .int 0, .ref a0_bridge, .int 0, .ref a0_waggon, .int 0, .ref a0_part, .ref a0_asked, .ref a0_under, .int 0, .null, .int 0, .int 0, .int 0, .long 0, .int 0, .int 0, .ref a0_far, .int 0])), (a0_asked, .inl (E 0, 3, .inl (upd (upd (upd (fun _ => 0) 0 100) 1 2) 2 0))), (a0_refused, .inl (E 0, 8, .inl (fun _ => 0)))] s.heap := hP
  have hl := lv_entry ([.ref a0, .int v_a, .int v_b]) (n := 4) (Nat.le_of_ble_eq_true rfl)
  rw [lg_entry_eq]
  generalize (lg_sl ([.ref a0, .int v_a, .int v_b]) ++ List.replicate (4 - (lg_sl ([.ref a0, .int v_a, .int v_b])).length) Slot.unset).toArray = ls at hl ⊢
  have hl : lv_has ls 4 [(0, .ref a0), (1, .int v_a), (2, .int v_b)] := hl
  refine lv_iload_n hx hb dX7_ask_0 rfl (lv_at hl 1 rfl) ?_
  refine lv_i2l (v := Int32.toInt64 v_a) hx hb dX7_ask_1 (by rfl) ?_
  refine lv_lconst (v := 0) hx hb dX7_ask_2 (by decide) ?_
  refine lv_ldc2 (v := 2) hx hb hown (htg _ q_1162) dX7_ask_3 ?_
  refine oh_pS (As := [.long (Int32.toInt64 v_a), .long 0, .long 2]) (rest := []) (v := fX7_in (Int32.toInt64 v_a) 0 2) ⟨hx, hb, hml, hown, htg⟩ (c_X7_in l D E G (Int32.toInt64 v_a) 0 2) (va_cwS 3 htg (oh_gS q_1066 q_1067 q_73 q_1068) rfl rfl rfl pdX7_in ⟨Nat.le_of_ble_eq_true rfl, Nat.le_of_ble_eq_true rfl⟩) hK (hP.sub (ws' := []) [] rfl) hG hS rfl hl.1 rfl (Nat.le_of_ble_eq_true rfl) dX7_ask_6 ⟨Nat.le_of_ble_eq_true rfl, Nat.le_of_ble_eq_true rfl⟩ ?_
  refine lv_if_eq (tgt := 43) hx hb dX7_ask_9 (by decide) (fun (c_1 : (fX7_in (Int32.toInt64 v_a) 0 2) = 0) => ?_) (fun (c_1 : ¬ ((fX7_in (Int32.toInt64 v_a) 0 2) = 0)) => ?_)
  · refine lv_aload_n hx hb dX7_ask_43 rfl (lv_at hl 0 rfl) ?_
    refine lv_bipush (v := (-2)) hx hb dX7_ask_44 (by decide) ?_
    refine oh_mV (As := [.int (-2)]) (rest := []) (wr := [(a0_asked, .inl (E 0, 3, .inl (upd (upd (upd (fun _ => 0) 0 100) 1 2) 2 0)))]) ⟨hx, hb, hml, hown, htg⟩ (c_X7_refuse l D E G s.heap.size a0 (-2) a0_shelf a0_rowSort a0_rowSize a0_rows a0_moved a0_shown a0_tape a0_refused a0_road a0_bridge a0_waggon a0_part a0_asked a0_under a0_far (show vp_in (-(-2)) 8 by unfold vp_in; decide)) (cwV 1 htg (oh_gV q_1071 q_1073 q_29 q_73 q_1074) rfl rfl rfl pdVX7_refuse ⟨Nat.le_of_ble_eq_true rfl, Nat.le_of_ble_eq_true rfl⟩) hK hP hD hG hS hA [0, 2] [1] rfl rfl (by decide) (by decide) (by decide) (va_recv hK hP (ci := 7) (q0 := 0) rfl rfl) rfl hl.1 rfl (Nat.le_of_ble_eq_true rfl) dX7_ask_46 ⟨Nat.le_of_ble_eq_true rfl, Nat.le_of_ble_eq_true rfl⟩ (fun r_1 u H locs hw hP hD hS => ?_)
    subst hw
    have hP : va_P D vwCl [(a0_asked, .inl (E 0, 3, .inl (upd (upd (upd (fun _ => 0) 0 100) 1 2) 2 0))), (a0, .inr (7, [.ref a0_shelf, .ref a0_rowSort, .ref a0_rowSize, .ref a0_rows, .ref a0_moved, .ref a0_shown, .ref a0_tape, .int 0, .ref a0_refused, .int 0, .ref a0_road, .int 0, .ref a0_bridge, .int 0, .ref a0_waggon, .int 0, .ref a0_part, .ref a0_asked, .ref a0_under, .int 0, .null, .int 0, .int 0, .int 0, .long 0, .int 0, .int 0, .ref a0_far, .int 0]))] H := hP
    have hD : va_D A [(a0_asked, .inl (E 0, 3, .inl (upd (upd (upd (fun _ => 0) 0 100) 1 2) 2 0))), (a0, .inr (7, [.ref a0_shelf, .ref a0_rowSort, .ref a0_rowSize, .ref a0_rows, .ref a0_moved, .ref a0_shown, .ref a0_tape, .int 0, .ref a0_refused, .int 0, .ref a0_road, .int 0, .ref a0_bridge, .int 0, .ref a0_waggon, .int 0, .ref a0_part, .ref a0_asked, .ref a0_under, .int 0, .null, .int 0, .int 0, .int 0, .long 0, .int 0, .int 0, .ref a0_far, .int 0]))] := hD
    refine W.widen (k := 0) (n := 0) (Nat.le_refl _) (Nat.le_refl _) ?_
    refine W.widen (k := 0) (n := 0) (Nat.le_of_ble_eq_true rfl) (Nat.le_of_ble_eq_true rfl) ?_
    exact W.iret (v := (-2)) hx hb hr (fun t ht hW => ⟨⟨(-2), (), rfl, by unfold fX7_ask; rw [if_pos c_1], ⟨by rw [ht]; exact hP.sub [] rfl, hD.sub [] (by decide) rfl⟩⟩, hS.F ht⟩) hS.2.2 dX7_ask_49
  · refine lv_iload_n hx hb dX7_ask_12 rfl (lv_at hl 2 rfl) ?_
    refine lv_i2l (v := Int32.toInt64 v_b) hx hb dX7_ask_13 (by rfl) ?_
    refine lv_lconst (v := 0) hx hb dX7_ask_14 (by decide) ?_
    refine lv_iload_n hx hb dX7_ask_15 rfl (lv_at hl 1 rfl) ?_
    refine lv_if_ne (tgt := 25) hx hb dX7_ask_16 (by decide) (fun (c_2 : ¬ (v_a = 0)) => ?_) (fun (c_2 : v_a = 0) => ?_)
    · refine lv_iload_n hx hb dX7_ask_25 rfl (lv_at hl 1 rfl) ?_
      refine lv_iconst (v := 1) hx hb dX7_ask_26 (by decide) ?_
      refine lv_icmp_ne (tgt := 36) hx hb dX7_ask_27 (by decide) (fun (c_3 : ¬ (v_a = 1)) => ?_) (fun (c_3 : v_a = 1) => ?_)
      · refine lv_lconst (v := 1) hx hb dX7_ask_36 (by decide) ?_
        refine oh_pS (As := [.long (Int32.toInt64 v_b), .long 0, .long 1]) (rest := []) (v := fX7_in (Int32.toInt64 v_b) 0 1) ⟨hx, hb, hml, hown, htg⟩ (c_X7_in l D E G (Int32.toInt64 v_b) 0 1) (va_cwS 3 htg (oh_gS q_1066 q_1067 q_73 q_1068) rfl rfl rfl pdX7_in ⟨Nat.le_of_ble_eq_true rfl, Nat.le_of_ble_eq_true rfl⟩) hK (hP.sub (ws' := []) [] rfl) hG hS rfl hl.1 rfl (Nat.le_of_ble_eq_true rfl) dX7_ask_37 ⟨Nat.le_of_ble_eq_true rfl, Nat.le_of_ble_eq_true rfl⟩ ?_
        refine lv_if_ne (tgt := 50) hx hb dX7_ask_40 (by decide) (fun (c_4 : ¬ ((fX7_in (Int32.toInt64 v_b) 0 1) = 0)) => ?_) (fun (c_4 : (fX7_in (Int32.toInt64 v_b) 0 1) = 0) => ?_)
        · refine lv_aload_n hx hb dX7_ask_50 rfl (lv_at hl 0 rfl) ?_
          refine va_get (D := D) (ci := 7) (v := .ref a0_asked) (C := RX7) (T := TX7) (N := 29) hx hb htg ig_7 hown hK hP 0 rfl rfl 17 (by decide) (htg _ q_990) (fun _ h9 => h9) rfl dX7_ask_51 ?_
          refine lv_iload_n hx hb dX7_ask_54 rfl (lv_at hl 1 rfl) ?_
          refine va_iald hx hb hK hP 1 0 rfl rfl (oh_wln c_1 (by decide)) dX7_ask_55 ?_
          refine lv_istore_n (lv' := [(3, .int ((upd (upd (upd (fun _ => 0) 0 100) 1 2) 2 0) (v_a).toNatClampNeg)), (0, .ref a0), (1, .int v_a), (2, .int v_b)]) hx hb dX7_ask_56 rfl hl (by decide) rfl (fun ls hl => ?_)
          refine lv_aload_n hx hb dX7_ask_57 rfl (lv_at hl 1 rfl) ?_
          refine va_get (D := D) (ci := 7) (v := .ref a0_asked) (C := RX7) (T := TX7) (N := 29) hx hb htg ig_7 hown hK hP 0 rfl rfl 17 (by decide) (htg _ q_990) (fun _ h9 => h9) rfl dX7_ask_58 ?_
          refine lv_iload_n hx hb dX7_ask_61 rfl (lv_at hl 2 rfl) ?_
          refine lv_iload_n hx hb dX7_ask_62 rfl (lv_at hl 3 rfl) ?_
          refine va_iast hx hb hK hP hD hS 1 0 rfl rfl (oh_wln c_1 (by decide)) dX7_ask_63 (fun H locs hP hD hS => ?_)
          have hP : va_P D vwCl [(a0, .inr (7, [.ref a0_shelf, .ref a0_rowSort, .ref a0_rowSize, .ref a0_rows, .ref a0_moved, .ref a0_shown, .ref a0_tape, .int 0, .ref a0_refused, .int 0, .ref a0_road, .int 0, .ref a0_bridge, .int 0, .ref a0_waggon, .int 0, .ref a0_part, .ref a0_asked, .ref a0_under, .int 0, .null, .int 0, .int 0, .int 0, .long 0, .int 0, .int 0, .ref a0_far, .int 0])), (a0_asked, .inl (E 0, 3, .inl (upd (upd (upd (upd (fun _ => 0) 0 100) 1 2) 2 0) ((v_a).toNatClampNeg) v_b))), (a0_refused, .inl (E 0, 8, .inl (fun _ => 0)))] H := hP
          have hD : va_D A [(a0, .inr (7, [.ref a0_shelf, .ref a0_rowSort, .ref a0_rowSize, .ref a0_rows, .ref a0_moved, .ref a0_shown, .ref a0_tape, .int 0, .ref a0_refused, .int 0, .ref a0_road, .int 0, .ref a0_bridge, .int 0, .ref a0_waggon, .int 0, .ref a0_part, .ref a0_asked, .ref a0_under, .int 0, .null, .int 0, .int 0, .int 0, .long 0, .int 0, .int 0, .ref a0_far, .int 0])), (a0_asked, .inl (E 0, 3, .inl (upd (upd (upd (upd (fun _ => 0) 0 100) 1 2) 2 0) ((v_a).toNatClampNeg) v_b))), (a0_refused, .inl (E 0, 8, .inl (fun _ => 0)))] := hD
          refine lv_iload_n hx hb dX7_ask_64 rfl (lv_at hl 0 rfl) ?_
          refine W.widen (k := 0) (n := 0) (Nat.le_of_ble_eq_true rfl) (Nat.le_of_ble_eq_true rfl) ?_
          exact W.iret (v := (upd (upd (upd (fun _ => 0) 0 100) 1 2) 2 0) (v_a).toNatClampNeg) hx hb hr (fun t ht hW => ⟨⟨(upd (upd (upd (fun _ => 0) 0 100) 1 2) 2 0) (v_a).toNatClampNeg, (), rfl, by unfold fX7_ask; rw [if_neg c_1, if_neg c_2, if_neg c_3, if_neg c_4], ⟨by rw [ht]; exact hP.sub [] rfl, hD.sub [] (by decide) rfl⟩⟩, hS.F ht⟩) hS.2.2 dX7_ask_65
        · refine lv_aload_n hx hb dX7_ask_43 rfl (lv_at hl 0 rfl) ?_
          refine lv_bipush (v := (-2)) hx hb dX7_ask_44 (by decide) ?_
          refine oh_mV (As := [.int (-2)]) (rest := []) (wr := [(a0_asked, .inl (E 0, 3, .inl (upd (upd (upd (fun _ => 0) 0 100) 1 2) 2 0)))]) ⟨hx, hb, hml, hown, htg⟩ (c_X7_refuse l D E G s.heap.size a0 (-2) a0_shelf a0_rowSort a0_rowSize a0_rows a0_moved a0_shown a0_tape a0_refused a0_road a0_bridge a0_waggon a0_part a0_asked a0_under a0_far (show vp_in (-(-2)) 8 by unfold vp_in; decide)) (cwV 1 htg (oh_gV q_1071 q_1073 q_29 q_73 q_1074) rfl rfl rfl pdVX7_refuse ⟨Nat.le_of_ble_eq_true rfl, Nat.le_of_ble_eq_true rfl⟩) hK hP hD hG hS hA [0, 2] [1] rfl rfl (by decide) (by decide) (by decide) (va_recv hK hP (ci := 7) (q0 := 0) rfl rfl) rfl hl.1 rfl (Nat.le_of_ble_eq_true rfl) dX7_ask_46 ⟨Nat.le_of_ble_eq_true rfl, Nat.le_of_ble_eq_true rfl⟩ (fun r_2 u H locs hw hP hD hS => ?_)
          subst hw
          have hP : va_P D vwCl [(a0_asked, .inl (E 0, 3, .inl (upd (upd (upd (fun _ => 0) 0 100) 1 2) 2 0))), (a0, .inr (7, [.ref a0_shelf, .ref a0_rowSort, .ref a0_rowSize, .ref a0_rows, .ref a0_moved, .ref a0_shown, .ref a0_tape, .int 0, .ref a0_refused, .int 0, .ref a0_road, .int 0, .ref a0_bridge, .int 0, .ref a0_waggon, .int 0, .ref a0_part, .ref a0_asked, .ref a0_under, .int 0, .null, .int 0, .int 0, .int 0, .long 0, .int 0, .int 0, .ref a0_far, .int 0]))] H := hP
          have hD : va_D A [(a0_asked, .inl (E 0, 3, .inl (upd (upd (upd (fun _ => 0) 0 100) 1 2) 2 0))), (a0, .inr (7, [.ref a0_shelf, .ref a0_rowSort, .ref a0_rowSize, .ref a0_rows, .ref a0_moved, .ref a0_shown, .ref a0_tape, .int 0, .ref a0_refused, .int 0, .ref a0_road, .int 0, .ref a0_bridge, .int 0, .ref a0_waggon, .int 0, .ref a0_part, .ref a0_asked, .ref a0_under, .int 0, .null, .int 0, .int 0, .int 0, .long 0, .int 0, .int 0, .ref a0_far, .int 0]))] := hD
          refine W.widen (k := 0) (n := 0) (Nat.le_refl _) (Nat.le_refl _) ?_
          refine W.widen (k := 0) (n := 0) (Nat.le_of_ble_eq_true rfl) (Nat.le_of_ble_eq_true rfl) ?_
          exact W.iret (v := (-2)) hx hb hr (fun t ht hW => ⟨⟨(-2), (), rfl, by unfold fX7_ask; rw [if_neg c_1, if_neg c_2, if_neg c_3, if_pos c_4], ⟨by rw [ht]; exact hP.sub [] rfl, hD.sub [] (by decide) rfl⟩⟩, hS.F ht⟩) hS.2.2 dX7_ask_49
      · refine lv_ldc2 (v := 99) hx hb hown (htg _ q_1136) dX7_ask_30 ?_
        refine lv_goto (tgt := 37) hx hb dX7_ask_33 (by decide) ?_
        refine oh_pS (As := [.long (Int32.toInt64 v_b), .long 0, .long 99]) (rest := []) (v := fX7_in (Int32.toInt64 v_b) 0 99) ⟨hx, hb, hml, hown, htg⟩ (c_X7_in l D E G (Int32.toInt64 v_b) 0 99) (va_cwS 3 htg (oh_gS q_1066 q_1067 q_73 q_1068) rfl rfl rfl pdX7_in ⟨Nat.le_of_ble_eq_true rfl, Nat.le_of_ble_eq_true rfl⟩) hK (hP.sub (ws' := []) [] rfl) hG hS rfl hl.1 rfl (Nat.le_of_ble_eq_true rfl) dX7_ask_37 ⟨Nat.le_of_ble_eq_true rfl, Nat.le_of_ble_eq_true rfl⟩ ?_
        refine lv_if_ne (tgt := 50) hx hb dX7_ask_40 (by decide) (fun (c_5 : ¬ ((fX7_in (Int32.toInt64 v_b) 0 99) = 0)) => ?_) (fun (c_5 : (fX7_in (Int32.toInt64 v_b) 0 99) = 0) => ?_)
        · refine lv_aload_n hx hb dX7_ask_50 rfl (lv_at hl 0 rfl) ?_
          refine va_get (D := D) (ci := 7) (v := .ref a0_asked) (C := RX7) (T := TX7) (N := 29) hx hb htg ig_7 hown hK hP 0 rfl rfl 17 (by decide) (htg _ q_990) (fun _ h9 => h9) rfl dX7_ask_51 ?_
          refine lv_iload_n hx hb dX7_ask_54 rfl (lv_at hl 1 rfl) ?_
          refine va_iald hx hb hK hP 1 0 rfl rfl (oh_wln c_1 (by decide)) dX7_ask_55 ?_
          refine lv_istore_n (lv' := [(3, .int ((upd (upd (upd (fun _ => 0) 0 100) 1 2) 2 0) (v_a).toNatClampNeg)), (0, .ref a0), (1, .int v_a), (2, .int v_b)]) hx hb dX7_ask_56 rfl hl (by decide) rfl (fun ls hl => ?_)
          refine lv_aload_n hx hb dX7_ask_57 rfl (lv_at hl 1 rfl) ?_
          refine va_get (D := D) (ci := 7) (v := .ref a0_asked) (C := RX7) (T := TX7) (N := 29) hx hb htg ig_7 hown hK hP 0 rfl rfl 17 (by decide) (htg _ q_990) (fun _ h9 => h9) rfl dX7_ask_58 ?_
          refine lv_iload_n hx hb dX7_ask_61 rfl (lv_at hl 2 rfl) ?_
          refine lv_iload_n hx hb dX7_ask_62 rfl (lv_at hl 3 rfl) ?_
          refine va_iast hx hb hK hP hD hS 1 0 rfl rfl (oh_wln c_1 (by decide)) dX7_ask_63 (fun H locs hP hD hS => ?_)
          have hP : va_P D vwCl [(a0, .inr (7, [.ref a0_shelf, .ref a0_rowSort, .ref a0_rowSize, .ref a0_rows, .ref a0_moved, .ref a0_shown, .ref a0_tape, .int 0, .ref a0_refused, .int 0, .ref a0_road, .int 0, .ref a0_bridge, .int 0, .ref a0_waggon, .int 0, .ref a0_part, .ref a0_asked, .ref a0_under, .int 0, .null, .int 0, .int 0, .int 0, .long 0, .int 0, .int 0, .ref a0_far, .int 0])), (a0_asked, .inl (E 0, 3, .inl (upd (upd (upd (upd (fun _ => 0) 0 100) 1 2) 2 0) ((v_a).toNatClampNeg) v_b))), (a0_refused, .inl (E 0, 8, .inl (fun _ => 0)))] H := hP
          have hD : va_D A [(a0, .inr (7, [.ref a0_shelf, .ref a0_rowSort, .ref a0_rowSize, .ref a0_rows, .ref a0_moved, .ref a0_shown, .ref a0_tape, .int 0, .ref a0_refused, .int 0, .ref a0_road, .int 0, .ref a0_bridge, .int 0, .ref a0_waggon, .int 0, .ref a0_part, .ref a0_asked, .ref a0_under, .int 0, .null, .int 0, .int 0, .int 0, .long 0, .int 0, .int 0, .ref a0_far, .int 0])), (a0_asked, .inl (E 0, 3, .inl (upd (upd (upd (upd (fun _ => 0) 0 100) 1 2) 2 0) ((v_a).toNatClampNeg) v_b))), (a0_refused, .inl (E 0, 8, .inl (fun _ => 0)))] := hD
          refine lv_iload_n hx hb dX7_ask_64 rfl (lv_at hl 0 rfl) ?_
          refine W.widen (k := 0) (n := 0) (Nat.le_of_ble_eq_true rfl) (Nat.le_of_ble_eq_true rfl) ?_
          exact W.iret (v := (upd (upd (upd (fun _ => 0) 0 100) 1 2) 2 0) (v_a).toNatClampNeg) hx hb hr (fun t ht hW => ⟨⟨(upd (upd (upd (fun _ => 0) 0 100) 1 2) 2 0) (v_a).toNatClampNeg, (), rfl, by unfold fX7_ask; rw [if_neg c_1, if_neg c_2, if_pos c_3, if_neg c_5], ⟨by rw [ht]; exact hP.sub [] rfl, hD.sub [] (by decide) rfl⟩⟩, hS.F ht⟩) hS.2.2 dX7_ask_65
        · refine lv_aload_n hx hb dX7_ask_43 rfl (lv_at hl 0 rfl) ?_
          refine lv_bipush (v := (-2)) hx hb dX7_ask_44 (by decide) ?_
          refine oh_mV (As := [.int (-2)]) (rest := []) (wr := [(a0_asked, .inl (E 0, 3, .inl (upd (upd (upd (fun _ => 0) 0 100) 1 2) 2 0)))]) ⟨hx, hb, hml, hown, htg⟩ (c_X7_refuse l D E G s.heap.size a0 (-2) a0_shelf a0_rowSort a0_rowSize a0_rows a0_moved a0_shown a0_tape a0_refused a0_road a0_bridge a0_waggon a0_part a0_asked a0_under a0_far (show vp_in (-(-2)) 8 by unfold vp_in; decide)) (cwV 1 htg (oh_gV q_1071 q_1073 q_29 q_73 q_1074) rfl rfl rfl pdVX7_refuse ⟨Nat.le_of_ble_eq_true rfl, Nat.le_of_ble_eq_true rfl⟩) hK hP hD hG hS hA [0, 2] [1] rfl rfl (by decide) (by decide) (by decide) (va_recv hK hP (ci := 7) (q0 := 0) rfl rfl) rfl hl.1 rfl (Nat.le_of_ble_eq_true rfl) dX7_ask_46 ⟨Nat.le_of_ble_eq_true rfl, Nat.le_of_ble_eq_true rfl⟩ (fun r_3 u H locs hw hP hD hS => ?_)
          subst hw
          have hP : va_P D vwCl [(a0_asked, .inl (E 0, 3, .inl (upd (upd (upd (fun _ => 0) 0 100) 1 2) 2 0))), (a0, .inr (7, [.ref a0_shelf, .ref a0_rowSort, .ref a0_rowSize, .ref a0_rows, .ref a0_moved, .ref a0_shown, .ref a0_tape, .int 0, .ref a0_refused, .int 0, .ref a0_road, .int 0, .ref a0_bridge, .int 0, .ref a0_waggon, .int 0, .ref a0_part, .ref a0_asked, .ref a0_under, .int 0, .null, .int 0, .int 0, .int 0, .long 0, .int 0, .int 0, .ref a0_far, .int 0]))] H := hP
          have hD : va_D A [(a0_asked, .inl (E 0, 3, .inl (upd (upd (upd (fun _ => 0) 0 100) 1 2) 2 0))), (a0, .inr (7, [.ref a0_shelf, .ref a0_rowSort, .ref a0_rowSize, .ref a0_rows, .ref a0_moved, .ref a0_shown, .ref a0_tape, .int 0, .ref a0_refused, .int 0, .ref a0_road, .int 0, .ref a0_bridge, .int 0, .ref a0_waggon, .int 0, .ref a0_part, .ref a0_asked, .ref a0_under, .int 0, .null, .int 0, .int 0, .int 0, .long 0, .int 0, .int 0, .ref a0_far, .int 0]))] := hD
          refine W.widen (k := 0) (n := 0) (Nat.le_refl _) (Nat.le_refl _) ?_
          refine W.widen (k := 0) (n := 0) (Nat.le_of_ble_eq_true rfl) (Nat.le_of_ble_eq_true rfl) ?_
          exact W.iret (v := (-2)) hx hb hr (fun t ht hW => ⟨⟨(-2), (), rfl, by unfold fX7_ask; rw [if_neg c_1, if_neg c_2, if_pos c_3, if_pos c_5], ⟨by rw [ht]; exact hP.sub [] rfl, hD.sub [] (by decide) rfl⟩⟩, hS.F ht⟩) hS.2.2 dX7_ask_49
    · refine lv_ldc2 (v := 900) hx hb hown (htg _ q_1172) dX7_ask_19 ?_
      refine lv_goto (tgt := 37) hx hb dX7_ask_22 (by decide) ?_
      refine oh_pS (As := [.long (Int32.toInt64 v_b), .long 0, .long 900]) (rest := []) (v := fX7_in (Int32.toInt64 v_b) 0 900) ⟨hx, hb, hml, hown, htg⟩ (c_X7_in l D E G (Int32.toInt64 v_b) 0 900) (va_cwS 3 htg (oh_gS q_1066 q_1067 q_73 q_1068) rfl rfl rfl pdX7_in ⟨Nat.le_of_ble_eq_true rfl, Nat.le_of_ble_eq_true rfl⟩) hK (hP.sub (ws' := []) [] rfl) hG hS rfl hl.1 rfl (Nat.le_of_ble_eq_true rfl) dX7_ask_37 ⟨Nat.le_of_ble_eq_true rfl, Nat.le_of_ble_eq_true rfl⟩ ?_
      refine lv_if_ne (tgt := 50) hx hb dX7_ask_40 (by decide) (fun (c_6 : ¬ ((fX7_in (Int32.toInt64 v_b) 0 900) = 0)) => ?_) (fun (c_6 : (fX7_in (Int32.toInt64 v_b) 0 900) = 0) => ?_)
      · refine lv_aload_n hx hb dX7_ask_50 rfl (lv_at hl 0 rfl) ?_
        refine va_get (D := D) (ci := 7) (v := .ref a0_asked) (C := RX7) (T := TX7) (N := 29) hx hb htg ig_7 hown hK hP 0 rfl rfl 17 (by decide) (htg _ q_990) (fun _ h9 => h9) rfl dX7_ask_51 ?_
        refine lv_iload_n hx hb dX7_ask_54 rfl (lv_at hl 1 rfl) ?_
        refine va_iald hx hb hK hP 1 0 rfl rfl (oh_wln c_1 (by decide)) dX7_ask_55 ?_
        refine lv_istore_n (lv' := [(3, .int ((upd (upd (upd (fun _ => 0) 0 100) 1 2) 2 0) (v_a).toNatClampNeg)), (0, .ref a0), (1, .int v_a), (2, .int v_b)]) hx hb dX7_ask_56 rfl hl (by decide) rfl (fun ls hl => ?_)
        refine lv_aload_n hx hb dX7_ask_57 rfl (lv_at hl 1 rfl) ?_
        refine va_get (D := D) (ci := 7) (v := .ref a0_asked) (C := RX7) (T := TX7) (N := 29) hx hb htg ig_7 hown hK hP 0 rfl rfl 17 (by decide) (htg _ q_990) (fun _ h9 => h9) rfl dX7_ask_58 ?_
        refine lv_iload_n hx hb dX7_ask_61 rfl (lv_at hl 2 rfl) ?_
        refine lv_iload_n hx hb dX7_ask_62 rfl (lv_at hl 3 rfl) ?_
        refine va_iast hx hb hK hP hD hS 1 0 rfl rfl (oh_wln c_1 (by decide)) dX7_ask_63 (fun H locs hP hD hS => ?_)
        have hP : va_P D vwCl [(a0, .inr (7, [.ref a0_shelf, .ref a0_rowSort, .ref a0_rowSize, .ref a0_rows, .ref a0_moved, .ref a0_shown, .ref a0_tape, .int 0, .ref a0_refused, .int 0, .ref a0_road, .int 0, .ref a0_bridge, .int 0, .ref a0_waggon, .int 0, .ref a0_part, .ref a0_asked, .ref a0_under, .int 0, .null, .int 0, .int 0, .int 0, .long 0, .int 0, .int 0, .ref a0_far, .int 0])), (a0_asked, .inl (E 0, 3, .inl (upd (upd (upd (upd (fun _ => 0) 0 100) 1 2) 2 0) ((v_a).toNatClampNeg) v_b))), (a0_refused, .inl (E 0, 8, .inl (fun _ => 0)))] H := hP
        have hD : va_D A [(a0, .inr (7, [.ref a0_shelf, .ref a0_rowSort, .ref a0_rowSize, .ref a0_rows, .ref a0_moved, .ref a0_shown, .ref a0_tape, .int 0, .ref a0_refused, .int 0, .ref a0_road, .int 0, .ref a0_bridge, .int 0, .ref a0_waggon, .int 0, .ref a0_part, .ref a0_asked, .ref a0_under, .int 0, .null, .int 0, .int 0, .int 0, .long 0, .int 0, .int 0, .ref a0_far, .int 0])), (a0_asked, .inl (E 0, 3, .inl (upd (upd (upd (upd (fun _ => 0) 0 100) 1 2) 2 0) ((v_a).toNatClampNeg) v_b))), (a0_refused, .inl (E 0, 8, .inl (fun _ => 0)))] := hD
        refine lv_iload_n hx hb dX7_ask_64 rfl (lv_at hl 0 rfl) ?_
        refine W.widen (k := 0) (n := 0) (Nat.le_of_ble_eq_true rfl) (Nat.le_of_ble_eq_true rfl) ?_
        exact W.iret (v := (upd (upd (upd (fun _ => 0) 0 100) 1 2) 2 0) (v_a).toNatClampNeg) hx hb hr (fun t ht hW => ⟨⟨(upd (upd (upd (fun _ => 0) 0 100) 1 2) 2 0) (v_a).toNatClampNeg, (), rfl, by unfold fX7_ask; rw [if_neg c_1, if_pos c_2, if_neg c_6], ⟨by rw [ht]; exact hP.sub [] rfl, hD.sub [] (by decide) rfl⟩⟩, hS.F ht⟩) hS.2.2 dX7_ask_65
      · refine lv_aload_n hx hb dX7_ask_43 rfl (lv_at hl 0 rfl) ?_
        refine lv_bipush (v := (-2)) hx hb dX7_ask_44 (by decide) ?_
        refine oh_mV (As := [.int (-2)]) (rest := []) (wr := [(a0_asked, .inl (E 0, 3, .inl (upd (upd (upd (fun _ => 0) 0 100) 1 2) 2 0)))]) ⟨hx, hb, hml, hown, htg⟩ (c_X7_refuse l D E G s.heap.size a0 (-2) a0_shelf a0_rowSort a0_rowSize a0_rows a0_moved a0_shown a0_tape a0_refused a0_road a0_bridge a0_waggon a0_part a0_asked a0_under a0_far (show vp_in (-(-2)) 8 by unfold vp_in; decide)) (cwV 1 htg (oh_gV q_1071 q_1073 q_29 q_73 q_1074) rfl rfl rfl pdVX7_refuse ⟨Nat.le_of_ble_eq_true rfl, Nat.le_of_ble_eq_true rfl⟩) hK hP hD hG hS hA [0, 2] [1] rfl rfl (by decide) (by decide) (by decide) (va_recv hK hP (ci := 7) (q0 := 0) rfl rfl) rfl hl.1 rfl (Nat.le_of_ble_eq_true rfl) dX7_ask_46 ⟨Nat.le_of_ble_eq_true rfl, Nat.le_of_ble_eq_true rfl⟩ (fun r_4 u H locs hw hP hD hS => ?_)
        subst hw
        have hP : va_P D vwCl [(a0_asked, .inl (E 0, 3, .inl (upd (upd (upd (fun _ => 0) 0 100) 1 2) 2 0))), (a0, .inr (7, [.ref a0_shelf, .ref a0_rowSort, .ref a0_rowSize, .ref a0_rows, .ref a0_moved, .ref a0_shown, .ref a0_tape, .int 0, .ref a0_refused, .int 0, .ref a0_road, .int 0, .ref a0_bridge, .int 0, .ref a0_waggon, .int 0, .ref a0_part, .ref a0_asked, .ref a0_under, .int 0, .null, .int 0, .int 0, .int 0, .long 0, .int 0, .int 0, .ref a0_far, .int 0]))] H := hP
        have hD : va_D A [(a0_asked, .inl (E 0, 3, .inl (upd (upd (upd (fun _ => 0) 0 100) 1 2) 2 0))), (a0, .inr (7, [.ref a0_shelf, .ref a0_rowSort, .ref a0_rowSize, .ref a0_rows, .ref a0_moved, .ref a0_shown, .ref a0_tape, .int 0, .ref a0_refused, .int 0, .ref a0_road, .int 0, .ref a0_bridge, .int 0, .ref a0_waggon, .int 0, .ref a0_part, .ref a0_asked, .ref a0_under, .int 0, .null, .int 0, .int 0, .int 0, .long 0, .int 0, .int 0, .ref a0_far, .int 0]))] := hD
        refine W.widen (k := 0) (n := 0) (Nat.le_refl _) (Nat.le_refl _) ?_
        refine W.widen (k := 0) (n := 0) (Nat.le_of_ble_eq_true rfl) (Nat.le_of_ble_eq_true rfl) ?_
        exact W.iret (v := (-2)) hx hb hr (fun t ht hW => ⟨⟨(-2), (), rfl, by unfold fX7_ask; rw [if_neg c_1, if_pos c_2, if_pos c_6], ⟨by rw [ht]; exact hP.sub [] rfl, hD.sub [] (by decide) rfl⟩⟩, hS.F ht⟩) hS.2.2 dX7_ask_49
theorem oh_m14 {v : Int32} (h : ¬ fX7_in (Int32.toInt64 v) 1 4 = 0) : v = 1 ∨ v = 2 ∨ v = 3 ∨ v = 4 := by
  rw [oh_in (a := 1) (b := 4) (by decide) (by decide)] at h
  exact oh_f14 h
theorem oh_m250 {v : Int32} (h : ¬ fX7_in (Int32.toInt64 v) 1 4 = 0) : v ≤ 250 := by
  rcases oh_m14 h with rfl | rfl | rfl | rfl <;> decide
theorem oh_m12 {v : Int32} (h : ¬ fX7_in (Int32.toInt64 v) 12 16 = 0) : vp_in (v - 10) 8 := by
  rw [oh_in (a := 12) (b := 16) (by decide) (by decide)] at h
  rw [vp_in_iff]
  unfold fX6_within at h
  by_cases h1 : v < 12
  · exact absurd (if_pos h1) h
  · rw [if_neg h1] at h
    by_cases h2 : 16 < v
    · exact absurd (if_pos h2) h
    · rw [Int32.lt_iff_toInt_lt] at h1 h2
      have h3 : (12 : Int32).toInt = 12 := by decide
      have h4 : (16 : Int32).toInt = 16 := by decide
      have h6 : (10 : Int32).toInt = 10 := by decide
      have h5 : (v - 10).toInt = v.toInt - 10 := by
        rw [Int32.toInt_sub, h6]
        apply Int.bmod_eq_of_le <;> omega
      omega
def fX7_feed (v_a : Int32) (v_b : Int32) : Int32 :=
  if (fX7_in (Int32.toInt64 v_b) 1 4) = 0 then (-2) else v_b
set_option maxHeartbeats 4000000 in
set_option maxRecDepth 100000 in
theorem c_X7_feed (l : Launch) (D : va_G) (E : Nat → ClassId) (G : Nat → Nat) (sz : Nat) (a0 : Nat) (v_a : Int32) (v_b : Int32) (a0_shelf : Nat) (a0_rowSort : Nat) (a0_rowSize : Nat) (a0_rows : Nat) (a0_moved : Nat) (a0_shown : Nat) (a0_tape : Nat) (a0_refused : Nat) (a0_road : Nat) (a0_bridge : Nat) (a0_waggon : Nat) (a0_part : Nat) (a0_asked : Nat) (a0_under : Nat) (a0_far : Nat) : Met l yX7_feed (oh_w yX7_feed cX7_feed 4 (some .int)) ({ frames := 1, cells := 0, slots := 0, locals := 25 }) (oh_Pm D E G [.ref a0, .int v_a, .int v_b] [(a0, .inr (7, [.ref a0_shelf, .ref a0_rowSort, .ref a0_rowSize, .ref a0_rows, .ref a0_moved, .ref a0_shown, .ref a0_tape, .int 0, .ref a0_refused, .int 0, .ref a0_road, .int 0, .ref a0_bridge, .int 0, .ref a0_waggon, .int 0, .ref a0_part, .ref a0_asked, .ref a0_under, .int 0, .null, .int 0, .int 0, .int 0, .long 0, .int 0, .int 0, .ref a0_far, .int 0])), (a0_tape, .inl (E 0, 250, .inl (fun _ => 0))), (a0_refused, .inl (E 0, 8, .inl (fun _ => 0)))] sz) (va_Qi (fun r (_ : Unit) => r = fX7_feed v_a v_b) (oh_B D (va_A [(a0, .inr (7, [.ref a0_shelf, .ref a0_rowSort, .ref a0_rowSize, .ref a0_rows, .ref a0_moved, .ref a0_shown, .ref a0_tape, .int 0, .ref a0_refused, .int 0, .ref a0_road, .int 0, .ref a0_bridge, .int 0, .ref a0_waggon, .int 0, .ref a0_part, .ref a0_asked, .ref a0_under, .int 0, .null, .int 0, .int 0, .int 0, .long 0, .int 0, .int 0, .ref a0_far, .int 0])), (a0_tape, .inl (E 0, 250, .inl (fun _ => 0))), (a0_refused, .inl (E 0, 8, .inl (fun _ => 0)))] sz) (fun _ => [])) (va_A [(a0, .inr (7, [.ref a0_shelf, .ref a0_rowSort, .ref a0_rowSize, .ref a0_rows, .ref a0_moved, .ref a0_shown, .ref a0_tape, .int 0, .ref a0_refused, .int 0, .ref a0_road, .int 0, .ref a0_bridge, .int 0, .ref a0_waggon, .int 0, .ref a0_part, .ref a0_asked, .ref a0_under, .int 0, .null, .int 0, .int 0, .int 0, .long 0, .int 0, .int 0, .ref a0_far, .int 0])), (a0_tape, .inl (E 0, 250, .inl (fun _ => 0))), (a0_refused, .inl (E 0, 8, .inl (fun _ => 0)))] sz)) 0 0 (va_A [(a0, .inr (7, [.ref a0_shelf, .ref a0_rowSort, .ref a0_rowSize, .ref a0_rows, .ref a0_moved, .ref a0_shown, .ref a0_tape, .int 0, .ref a0_refused, .int 0, .ref a0_road, .int 0, .ref a0_bridge, .int 0, .ref a0_waggon, .int 0, .ref a0_part, .ref a0_asked, .ref a0_under, .int 0, .null, .int 0, .int 0, .int 0, .long 0, .int 0, .int 0, .ref a0_far, .int 0])), (a0_tape, .inl (E 0, 250, .inl (fun _ => 0))), (a0_refused, .inl (E 0, 8, .inl (fun _ => 0)))] sz) := by
  refine Met.ofW (cc := cX7_feed) (maxL := 4) (ret := (some .int)) (by decide) rfl ?_
  intro p e s m args below meth c s₁ B hml hv
  obtain ⟨rfl, hsz, hP, hK, hD0, hG⟩ := hv
  have hx := B.exec
  have hb := B.bytes
  have hr := B.returns
  have hts := atoms_spec (ws := (oh_w yX7_feed cX7_feed 4 (some .int))) B.pre
  have htg : ∀ w ∈ oh_t, w.before _ s = true := fun w h => hts w (List.mem_cons_of_mem _ h)
  have hown : s.vm.findClass RX7 = some m.cls := findClass_of_methodNamed B.named
  have hlocks := B.notSynchronized
  subst hsz
  have hD := hD0.self (sz := s.heap.size)
  generalize hAe : va_A [(a0, .inr (7, [.ref a0_shelf, .ref a0_rowSort, .ref a0_rowSize, .ref a0_rows, .ref a0_moved, .ref a0_shown, .ref a0_tape, .int 0, .ref a0_refused, .int 0, .ref a0_road, .int 0, .ref a0_bridge, .int 0, .ref a0_waggon, .int 0, .ref a0_part, .ref a0_asked, .ref a0_under, .int 0, .null, .int 0, .int 0, .int 0, .long 0, .int 0, .int 0, .ref a0_far, .int 0])), (a0_tape, .inl (E 0, 250, .inl (fun _ => 0))), (a0_refused, .inl (E 0, 8, .inl (fun _ => 0)))] s.heap.size = A at hD hG ⊢
  have hA : ∀ q : Nat, s.heap.size ≤ q → A q := fun q h => by rw [← hAe]; exact Or.inr h
  have hS : va_S A s.heap s.heap [] := va_S.rf
  have hP : va_P D vwCl [(a0, .inr (7, [.ref a0_shelf, .ref a0_rowSort, .ref a0_rowSize, .ref a0_rows, .ref a0_moved, .ref a0_shown, .ref a0_tape, .int 0, .ref a0_refused, .int 0, .ref a0_road, .int 0, .ref a0_bridge, .int 0, .ref a0_waggon, .int 0, .ref a0_part, .ref a0_asked, .ref a0_under, .int 0, .null, .int 0, .int 0, .int 0, .long 0, .int 0, .int 0, .ref a0_far, .int 0])), (a0_tape, .inl (E 0, 250, .inl (fun _ => 0))), (a0_refused, .inl (E 0, 8, .inl (fun _ => 0)))] s.heap := hP
  have hl := lv_entry ([.ref a0, .int v_a, .int v_b]) (n := 4) (Nat.le_of_ble_eq_true rfl)
  rw [lg_entry_eq]
  generalize (lg_sl ([.ref a0, .int v_a, .int v_b]) ++ List.replicate (4 - (lg_sl ([.ref a0, .int v_a, .int v_b])).length) Slot.unset).toArray = ls at hl ⊢
  have hl : lv_has ls 4 [(0, .ref a0), (1, .int v_a), (2, .int v_b)] := hl
  refine lv_iload_n hx hb dX7_feed_0 rfl (lv_at hl 2 rfl) ?_
  refine lv_i2l (v := Int32.toInt64 v_b) hx hb dX7_feed_1 (by rfl) ?_
  refine lv_lconst (v := 1) hx hb dX7_feed_2 (by decide) ?_
  refine lv_ldc2 (v := 4) hx hb hown (htg _ q_1069) dX7_feed_3 ?_
  refine oh_pS (As := [.long (Int32.toInt64 v_b), .long 1, .long 4]) (rest := []) (v := fX7_in (Int32.toInt64 v_b) 1 4) ⟨hx, hb, hml, hown, htg⟩ (c_X7_in l D E G (Int32.toInt64 v_b) 1 4) (va_cwS 3 htg (oh_gS q_1066 q_1067 q_73 q_1068) rfl rfl rfl pdX7_in ⟨Nat.le_of_ble_eq_true rfl, Nat.le_of_ble_eq_true rfl⟩) hK (hP.sub (ws' := []) [] rfl) hG hS rfl hl.1 rfl (Nat.le_of_ble_eq_true rfl) dX7_feed_6 ⟨Nat.le_of_ble_eq_true rfl, Nat.le_of_ble_eq_true rfl⟩ ?_
  refine lv_if_ne (tgt := 19) hx hb dX7_feed_9 (by decide) (fun (c_1 : ¬ ((fX7_in (Int32.toInt64 v_b) 1 4) = 0)) => ?_) (fun (c_1 : (fX7_in (Int32.toInt64 v_b) 1 4) = 0) => ?_)
  · refine lv_iload_n hx hb dX7_feed_19 rfl (lv_at hl 2 rfl) ?_
    refine lv_sipush (v := 250) hx hb dX7_feed_20 (by decide) ?_
    refine lv_aload_n hx hb dX7_feed_23 rfl (lv_at hl 0 rfl) ?_
    refine va_get (D := D) (ci := 7) (v := .int 0) (C := RX7) (T := TX7) (N := 29) hx hb htg ig_7 hown hK hP 0 rfl rfl 7 (by decide) (htg _ q_980) (fun _ h9 => h9) rfl dX7_feed_24 ?_
    refine lv_isub hx hb dX7_feed_27 ?_
    refine oh_nrm (v := 250) (by decide) ?_
    refine lv_icmp_le (tgt := 38) hx hb dX7_feed_28 (by decide) (fun _ => ?_) (fun c => absurd (show v_b ≤ 250 from oh_m250 c_1) c)
    rcases oh_m14 c_1 with rfl | rfl | rfl | rfl
    · refine lv_iload_n hx hb dX7_feed_38 rfl (lv_at hl 2 rfl) ?_
      refine lv_iconst (v := 1) hx hb dX7_feed_39 (by decide) ?_
      refine lv_isub hx hb dX7_feed_40 ?_
      refine oh_nrm (v := 0) (by decide) ?_
      refine lv_istore_n (lv' := [(3, .int 0), (0, .ref a0), (1, .int v_a), (2, .int 1)]) hx hb dX7_feed_41 rfl hl (by decide) rfl (fun ls hl => ?_)
      refine lv_iload_n hx hb dX7_feed_42 rfl (lv_at hl 0 rfl) ?_
      refine lv_if_lt (tgt := 78) hx hb dX7_feed_43 (by decide) (fun c => absurd c (show ¬ ((0 : Int32) < 0) from by decide)) (fun _ => ?_)
      refine lv_aload_n hx hb dX7_feed_46 rfl (lv_at hl 1 rfl) ?_
      refine va_get (D := D) (ci := 7) (v := .ref a0_tape) (C := RX7) (T := TX7) (N := 29) hx hb htg ig_7 hown hK hP 0 rfl rfl 6 (by decide) (htg _ q_979) (fun _ h9 => h9) rfl dX7_feed_47 ?_
      refine lv_aload_n hx hb dX7_feed_50 rfl (lv_at hl 1 rfl) ?_
      refine lv_dup hx hb dX7_feed_51 rfl ?_
      refine va_get (D := D) (ci := 7) (v := .int 0) (C := RX7) (T := TX7) (N := 29) hx hb htg ig_7 hown hK hP 0 rfl rfl 7 (by decide) (htg _ q_980) (fun _ h9 => h9) rfl dX7_feed_52 ?_
      refine lv_dup_x1 hx hb dX7_feed_55 rfl rfl ?_
      refine lv_iconst (v := 1) hx hb dX7_feed_56 (by decide) ?_
      refine lv_iadd hx hb dX7_feed_57 ?_
      refine oh_nrm (v := 1) (by decide) ?_
      refine va_put (D := D) (ci := 7) (v := .int 1) (ty := .int) (C := RX7) (T := TX7) (N := 29) hx hb htg ig_7 tyX7 tyX7_ok nmX7 hown hK hP hD hS 0 rfl rfl 7 (by decide) (htg _ q_980) (fun _ h9 => h9) rfl (by decide +kernel) rfl rfl (Nat.le_of_ble_eq_true rfl) dX7_feed_58 (fun H locs hP hD hS => ?_)
      have hP : va_P D vwCl [(a0, .inr (7, [.ref a0_shelf, .ref a0_rowSort, .ref a0_rowSize, .ref a0_rows, .ref a0_moved, .ref a0_shown, .ref a0_tape, .int 1, .ref a0_refused, .int 0, .ref a0_road, .int 0, .ref a0_bridge, .int 0, .ref a0_waggon, .int 0, .ref a0_part, .ref a0_asked, .ref a0_under, .int 0, .null, .int 0, .int 0, .int 0, .long 0, .int 0, .int 0, .ref a0_far, .int 0])), (a0_tape, .inl (E 0, 250, .inl (fun _ => 0))), (a0_refused, .inl (E 0, 8, .inl (fun _ => 0)))] H := hP
      have hD : va_D A [(a0, .inr (7, [.ref a0_shelf, .ref a0_rowSort, .ref a0_rowSize, .ref a0_rows, .ref a0_moved, .ref a0_shown, .ref a0_tape, .int 1, .ref a0_refused, .int 0, .ref a0_road, .int 0, .ref a0_bridge, .int 0, .ref a0_waggon, .int 0, .ref a0_part, .ref a0_asked, .ref a0_under, .int 0, .null, .int 0, .int 0, .int 0, .long 0, .int 0, .int 0, .ref a0_far, .int 0])), (a0_tape, .inl (E 0, 250, .inl (fun _ => 0))), (a0_refused, .inl (E 0, 8, .inl (fun _ => 0)))] := hD
      refine lv_iload_n hx hb dX7_feed_61 rfl (lv_at hl 2 rfl) ?_
      refine lv_bipush (v := 8) hx hb dX7_feed_62 (by decide) ?_
      refine lv_iload_n hx hb dX7_feed_64 rfl (lv_at hl 0 rfl) ?_
      refine lv_imul hx hb dX7_feed_65 ?_
      refine oh_nrm (v := 0) (by decide) ?_
      refine lv_ishr hx hb dX7_feed_66 ?_
      refine lv_sipush (v := 255) hx hb dX7_feed_67 (by decide) ?_
      refine lv_iand hx hb dX7_feed_70 ?_
      refine va_iast hx hb hK hP hD hS 1 0 rfl rfl (show vp_in 0 250 by unfold vp_in; decide) dX7_feed_71 (fun H locs hP hD hS => ?_)
      have hP : va_P D vwCl [(a0, .inr (7, [.ref a0_shelf, .ref a0_rowSort, .ref a0_rowSize, .ref a0_rows, .ref a0_moved, .ref a0_shown, .ref a0_tape, .int 1, .ref a0_refused, .int 0, .ref a0_road, .int 0, .ref a0_bridge, .int 0, .ref a0_waggon, .int 0, .ref a0_part, .ref a0_asked, .ref a0_under, .int 0, .null, .int 0, .int 0, .int 0, .long 0, .int 0, .int 0, .ref a0_far, .int 0])), (a0_tape, .inl (E 0, 250, .inl (upd (fun _ => 0) 0 ((v_a >>> ((0 : Int32) &&& 31)) &&& 255)))), (a0_refused, .inl (E 0, 8, .inl (fun _ => 0)))] H := hP
      have hD : va_D A [(a0, .inr (7, [.ref a0_shelf, .ref a0_rowSort, .ref a0_rowSize, .ref a0_rows, .ref a0_moved, .ref a0_shown, .ref a0_tape, .int 1, .ref a0_refused, .int 0, .ref a0_road, .int 0, .ref a0_bridge, .int 0, .ref a0_waggon, .int 0, .ref a0_part, .ref a0_asked, .ref a0_under, .int 0, .null, .int 0, .int 0, .int 0, .long 0, .int 0, .int 0, .ref a0_far, .int 0])), (a0_tape, .inl (E 0, 250, .inl (upd (fun _ => 0) 0 ((v_a >>> ((0 : Int32) &&& 31)) &&& 255)))), (a0_refused, .inl (E 0, 8, .inl (fun _ => 0)))] := hD
      refine lv_iinc (v := (-1)) (lv' := [(3, .int (-1)), (0, .ref a0), (1, .int v_a), (2, .int 1)]) hx hb dX7_feed_72 hl (k := 0) rfl (by decide) (by decide) rfl (fun ls hl => ?_)
      refine lv_goto (tgt := 42) hx hb dX7_feed_75 (by decide) ?_
      refine lv_iload_n hx hb dX7_feed_42 rfl (lv_at hl 0 rfl) ?_
      refine lv_if_lt (tgt := 78) hx hb dX7_feed_43 (by decide) (fun _ => ?_) (fun c => absurd (show (-1 : Int32) < 0 from by decide) c)
      refine lv_aload_n hx hb dX7_feed_78 rfl (lv_at hl 1 rfl) ?_
      refine va_get (D := D) (ci := 7) (v := .int 1) (C := RX7) (T := TX7) (N := 29) hx hb htg ig_7 hown hK hP 0 rfl rfl 7 (by decide) (htg _ q_980) (fun _ h9 => h9) rfl dX7_feed_79 ?_
      refine W.widen (k := 0) (n := 0) (Nat.le_of_ble_eq_true rfl) (Nat.le_of_ble_eq_true rfl) ?_
      exact W.iret (v := 1) hx hb hr (fun t ht hW => ⟨⟨1, (), rfl, by unfold fX7_feed; rw [if_neg c_1], ⟨by rw [ht]; exact hP.sub [] rfl, hD.sub [] (by decide) rfl⟩⟩, hS.F ht⟩) hS.2.2 dX7_feed_82
    · refine lv_iload_n hx hb dX7_feed_38 rfl (lv_at hl 2 rfl) ?_
      refine lv_iconst (v := 1) hx hb dX7_feed_39 (by decide) ?_
      refine lv_isub hx hb dX7_feed_40 ?_
      refine oh_nrm (v := 1) (by decide) ?_
      refine lv_istore_n (lv' := [(3, .int 1), (0, .ref a0), (1, .int v_a), (2, .int 2)]) hx hb dX7_feed_41 rfl hl (by decide) rfl (fun ls hl => ?_)
      refine lv_iload_n hx hb dX7_feed_42 rfl (lv_at hl 0 rfl) ?_
      refine lv_if_lt (tgt := 78) hx hb dX7_feed_43 (by decide) (fun c => absurd c (show ¬ ((1 : Int32) < 0) from by decide)) (fun _ => ?_)
      refine lv_aload_n hx hb dX7_feed_46 rfl (lv_at hl 1 rfl) ?_
      refine va_get (D := D) (ci := 7) (v := .ref a0_tape) (C := RX7) (T := TX7) (N := 29) hx hb htg ig_7 hown hK hP 0 rfl rfl 6 (by decide) (htg _ q_979) (fun _ h9 => h9) rfl dX7_feed_47 ?_
      refine lv_aload_n hx hb dX7_feed_50 rfl (lv_at hl 1 rfl) ?_
      refine lv_dup hx hb dX7_feed_51 rfl ?_
      refine va_get (D := D) (ci := 7) (v := .int 0) (C := RX7) (T := TX7) (N := 29) hx hb htg ig_7 hown hK hP 0 rfl rfl 7 (by decide) (htg _ q_980) (fun _ h9 => h9) rfl dX7_feed_52 ?_
      refine lv_dup_x1 hx hb dX7_feed_55 rfl rfl ?_
      refine lv_iconst (v := 1) hx hb dX7_feed_56 (by decide) ?_
      refine lv_iadd hx hb dX7_feed_57 ?_
      refine oh_nrm (v := 1) (by decide) ?_
      refine va_put (D := D) (ci := 7) (v := .int 1) (ty := .int) (C := RX7) (T := TX7) (N := 29) hx hb htg ig_7 tyX7 tyX7_ok nmX7 hown hK hP hD hS 0 rfl rfl 7 (by decide) (htg _ q_980) (fun _ h9 => h9) rfl (by decide +kernel) rfl rfl (Nat.le_of_ble_eq_true rfl) dX7_feed_58 (fun H locs hP hD hS => ?_)
      have hP : va_P D vwCl [(a0, .inr (7, [.ref a0_shelf, .ref a0_rowSort, .ref a0_rowSize, .ref a0_rows, .ref a0_moved, .ref a0_shown, .ref a0_tape, .int 1, .ref a0_refused, .int 0, .ref a0_road, .int 0, .ref a0_bridge, .int 0, .ref a0_waggon, .int 0, .ref a0_part, .ref a0_asked, .ref a0_under, .int 0, .null, .int 0, .int 0, .int 0, .long 0, .int 0, .int 0, .ref a0_far, .int 0])), (a0_tape, .inl (E 0, 250, .inl (fun _ => 0))), (a0_refused, .inl (E 0, 8, .inl (fun _ => 0)))] H := hP
      have hD : va_D A [(a0, .inr (7, [.ref a0_shelf, .ref a0_rowSort, .ref a0_rowSize, .ref a0_rows, .ref a0_moved, .ref a0_shown, .ref a0_tape, .int 1, .ref a0_refused, .int 0, .ref a0_road, .int 0, .ref a0_bridge, .int 0, .ref a0_waggon, .int 0, .ref a0_part, .ref a0_asked, .ref a0_under, .int 0, .null, .int 0, .int 0, .int 0, .long 0, .int 0, .int 0, .ref a0_far, .int 0])), (a0_tape, .inl (E 0, 250, .inl (fun _ => 0))), (a0_refused, .inl (E 0, 8, .inl (fun _ => 0)))] := hD
      refine lv_iload_n hx hb dX7_feed_61 rfl (lv_at hl 2 rfl) ?_
      refine lv_bipush (v := 8) hx hb dX7_feed_62 (by decide) ?_
      refine lv_iload_n hx hb dX7_feed_64 rfl (lv_at hl 0 rfl) ?_
      refine lv_imul hx hb dX7_feed_65 ?_
      refine oh_nrm (v := 8) (by decide) ?_
      refine lv_ishr hx hb dX7_feed_66 ?_
      refine lv_sipush (v := 255) hx hb dX7_feed_67 (by decide) ?_
      refine lv_iand hx hb dX7_feed_70 ?_
      refine va_iast hx hb hK hP hD hS 1 0 rfl rfl (show vp_in 0 250 by unfold vp_in; decide) dX7_feed_71 (fun H locs hP hD hS => ?_)
      have hP : va_P D vwCl [(a0, .inr (7, [.ref a0_shelf, .ref a0_rowSort, .ref a0_rowSize, .ref a0_rows, .ref a0_moved, .ref a0_shown, .ref a0_tape, .int 1, .ref a0_refused, .int 0, .ref a0_road, .int 0, .ref a0_bridge, .int 0, .ref a0_waggon, .int 0, .ref a0_part, .ref a0_asked, .ref a0_under, .int 0, .null, .int 0, .int 0, .int 0, .long 0, .int 0, .int 0, .ref a0_far, .int 0])), (a0_tape, .inl (E 0, 250, .inl (upd (fun _ => 0) 0 ((v_a >>> ((8 : Int32) &&& 31)) &&& 255)))), (a0_refused, .inl (E 0, 8, .inl (fun _ => 0)))] H := hP
      have hD : va_D A [(a0, .inr (7, [.ref a0_shelf, .ref a0_rowSort, .ref a0_rowSize, .ref a0_rows, .ref a0_moved, .ref a0_shown, .ref a0_tape, .int 1, .ref a0_refused, .int 0, .ref a0_road, .int 0, .ref a0_bridge, .int 0, .ref a0_waggon, .int 0, .ref a0_part, .ref a0_asked, .ref a0_under, .int 0, .null, .int 0, .int 0, .int 0, .long 0, .int 0, .int 0, .ref a0_far, .int 0])), (a0_tape, .inl (E 0, 250, .inl (upd (fun _ => 0) 0 ((v_a >>> ((8 : Int32) &&& 31)) &&& 255)))), (a0_refused, .inl (E 0, 8, .inl (fun _ => 0)))] := hD
      refine lv_iinc (v := 0) (lv' := [(3, .int 0), (0, .ref a0), (1, .int v_a), (2, .int 2)]) hx hb dX7_feed_72 hl (k := 0) rfl (by decide) (by decide) rfl (fun ls hl => ?_)
      refine lv_goto (tgt := 42) hx hb dX7_feed_75 (by decide) ?_
      refine lv_iload_n hx hb dX7_feed_42 rfl (lv_at hl 0 rfl) ?_
      refine lv_if_lt (tgt := 78) hx hb dX7_feed_43 (by decide) (fun c => absurd c (show ¬ ((0 : Int32) < 0) from by decide)) (fun _ => ?_)
      refine lv_aload_n hx hb dX7_feed_46 rfl (lv_at hl 1 rfl) ?_
      refine va_get (D := D) (ci := 7) (v := .ref a0_tape) (C := RX7) (T := TX7) (N := 29) hx hb htg ig_7 hown hK hP 0 rfl rfl 6 (by decide) (htg _ q_979) (fun _ h9 => h9) rfl dX7_feed_47 ?_
      refine lv_aload_n hx hb dX7_feed_50 rfl (lv_at hl 1 rfl) ?_
      refine lv_dup hx hb dX7_feed_51 rfl ?_
      refine va_get (D := D) (ci := 7) (v := .int 1) (C := RX7) (T := TX7) (N := 29) hx hb htg ig_7 hown hK hP 0 rfl rfl 7 (by decide) (htg _ q_980) (fun _ h9 => h9) rfl dX7_feed_52 ?_
      refine lv_dup_x1 hx hb dX7_feed_55 rfl rfl ?_
      refine lv_iconst (v := 1) hx hb dX7_feed_56 (by decide) ?_
      refine lv_iadd hx hb dX7_feed_57 ?_
      refine oh_nrm (v := 2) (by decide) ?_
      refine va_put (D := D) (ci := 7) (v := .int 2) (ty := .int) (C := RX7) (T := TX7) (N := 29) hx hb htg ig_7 tyX7 tyX7_ok nmX7 hown hK hP hD hS 0 rfl rfl 7 (by decide) (htg _ q_980) (fun _ h9 => h9) rfl (by decide +kernel) rfl rfl (Nat.le_of_ble_eq_true rfl) dX7_feed_58 (fun H locs hP hD hS => ?_)
      have hP : va_P D vwCl [(a0, .inr (7, [.ref a0_shelf, .ref a0_rowSort, .ref a0_rowSize, .ref a0_rows, .ref a0_moved, .ref a0_shown, .ref a0_tape, .int 2, .ref a0_refused, .int 0, .ref a0_road, .int 0, .ref a0_bridge, .int 0, .ref a0_waggon, .int 0, .ref a0_part, .ref a0_asked, .ref a0_under, .int 0, .null, .int 0, .int 0, .int 0, .long 0, .int 0, .int 0, .ref a0_far, .int 0])), (a0_tape, .inl (E 0, 250, .inl (upd (fun _ => 0) 0 ((v_a >>> ((8 : Int32) &&& 31)) &&& 255)))), (a0_refused, .inl (E 0, 8, .inl (fun _ => 0)))] H := hP
      have hD : va_D A [(a0, .inr (7, [.ref a0_shelf, .ref a0_rowSort, .ref a0_rowSize, .ref a0_rows, .ref a0_moved, .ref a0_shown, .ref a0_tape, .int 2, .ref a0_refused, .int 0, .ref a0_road, .int 0, .ref a0_bridge, .int 0, .ref a0_waggon, .int 0, .ref a0_part, .ref a0_asked, .ref a0_under, .int 0, .null, .int 0, .int 0, .int 0, .long 0, .int 0, .int 0, .ref a0_far, .int 0])), (a0_tape, .inl (E 0, 250, .inl (upd (fun _ => 0) 0 ((v_a >>> ((8 : Int32) &&& 31)) &&& 255)))), (a0_refused, .inl (E 0, 8, .inl (fun _ => 0)))] := hD
      refine lv_iload_n hx hb dX7_feed_61 rfl (lv_at hl 2 rfl) ?_
      refine lv_bipush (v := 8) hx hb dX7_feed_62 (by decide) ?_
      refine lv_iload_n hx hb dX7_feed_64 rfl (lv_at hl 0 rfl) ?_
      refine lv_imul hx hb dX7_feed_65 ?_
      refine oh_nrm (v := 0) (by decide) ?_
      refine lv_ishr hx hb dX7_feed_66 ?_
      refine lv_sipush (v := 255) hx hb dX7_feed_67 (by decide) ?_
      refine lv_iand hx hb dX7_feed_70 ?_
      refine va_iast hx hb hK hP hD hS 1 0 rfl rfl (show vp_in 1 250 by unfold vp_in; decide) dX7_feed_71 (fun H locs hP hD hS => ?_)
      have hP : va_P D vwCl [(a0, .inr (7, [.ref a0_shelf, .ref a0_rowSort, .ref a0_rowSize, .ref a0_rows, .ref a0_moved, .ref a0_shown, .ref a0_tape, .int 2, .ref a0_refused, .int 0, .ref a0_road, .int 0, .ref a0_bridge, .int 0, .ref a0_waggon, .int 0, .ref a0_part, .ref a0_asked, .ref a0_under, .int 0, .null, .int 0, .int 0, .int 0, .long 0, .int 0, .int 0, .ref a0_far, .int 0])), (a0_tape, .inl (E 0, 250, .inl (upd (upd (fun _ => 0) 0 ((v_a >>> ((8 : Int32) &&& 31)) &&& 255)) 1 ((v_a >>> ((0 : Int32) &&& 31)) &&& 255)))), (a0_refused, .inl (E 0, 8, .inl (fun _ => 0)))] H := hP
      have hD : va_D A [(a0, .inr (7, [.ref a0_shelf, .ref a0_rowSort, .ref a0_rowSize, .ref a0_rows, .ref a0_moved, .ref a0_shown, .ref a0_tape, .int 2, .ref a0_refused, .int 0, .ref a0_road, .int 0, .ref a0_bridge, .int 0, .ref a0_waggon, .int 0, .ref a0_part, .ref a0_asked, .ref a0_under, .int 0, .null, .int 0, .int 0, .int 0, .long 0, .int 0, .int 0, .ref a0_far, .int 0])), (a0_tape, .inl (E 0, 250, .inl (upd (upd (fun _ => 0) 0 ((v_a >>> ((8 : Int32) &&& 31)) &&& 255)) 1 ((v_a >>> ((0 : Int32) &&& 31)) &&& 255)))), (a0_refused, .inl (E 0, 8, .inl (fun _ => 0)))] := hD
      refine lv_iinc (v := (-1)) (lv' := [(3, .int (-1)), (0, .ref a0), (1, .int v_a), (2, .int 2)]) hx hb dX7_feed_72 hl (k := 0) rfl (by decide) (by decide) rfl (fun ls hl => ?_)
      refine lv_goto (tgt := 42) hx hb dX7_feed_75 (by decide) ?_
      refine lv_iload_n hx hb dX7_feed_42 rfl (lv_at hl 0 rfl) ?_
      refine lv_if_lt (tgt := 78) hx hb dX7_feed_43 (by decide) (fun _ => ?_) (fun c => absurd (show (-1 : Int32) < 0 from by decide) c)
      refine lv_aload_n hx hb dX7_feed_78 rfl (lv_at hl 1 rfl) ?_
      refine va_get (D := D) (ci := 7) (v := .int 2) (C := RX7) (T := TX7) (N := 29) hx hb htg ig_7 hown hK hP 0 rfl rfl 7 (by decide) (htg _ q_980) (fun _ h9 => h9) rfl dX7_feed_79 ?_
      refine W.widen (k := 0) (n := 0) (Nat.le_of_ble_eq_true rfl) (Nat.le_of_ble_eq_true rfl) ?_
      exact W.iret (v := 2) hx hb hr (fun t ht hW => ⟨⟨2, (), rfl, by unfold fX7_feed; rw [if_neg c_1], ⟨by rw [ht]; exact hP.sub [] rfl, hD.sub [] (by decide) rfl⟩⟩, hS.F ht⟩) hS.2.2 dX7_feed_82
    · refine lv_iload_n hx hb dX7_feed_38 rfl (lv_at hl 2 rfl) ?_
      refine lv_iconst (v := 1) hx hb dX7_feed_39 (by decide) ?_
      refine lv_isub hx hb dX7_feed_40 ?_
      refine oh_nrm (v := 2) (by decide) ?_
      refine lv_istore_n (lv' := [(3, .int 2), (0, .ref a0), (1, .int v_a), (2, .int 3)]) hx hb dX7_feed_41 rfl hl (by decide) rfl (fun ls hl => ?_)
      refine lv_iload_n hx hb dX7_feed_42 rfl (lv_at hl 0 rfl) ?_
      refine lv_if_lt (tgt := 78) hx hb dX7_feed_43 (by decide) (fun c => absurd c (show ¬ ((2 : Int32) < 0) from by decide)) (fun _ => ?_)
      refine lv_aload_n hx hb dX7_feed_46 rfl (lv_at hl 1 rfl) ?_
      refine va_get (D := D) (ci := 7) (v := .ref a0_tape) (C := RX7) (T := TX7) (N := 29) hx hb htg ig_7 hown hK hP 0 rfl rfl 6 (by decide) (htg _ q_979) (fun _ h9 => h9) rfl dX7_feed_47 ?_
      refine lv_aload_n hx hb dX7_feed_50 rfl (lv_at hl 1 rfl) ?_
      refine lv_dup hx hb dX7_feed_51 rfl ?_
      refine va_get (D := D) (ci := 7) (v := .int 0) (C := RX7) (T := TX7) (N := 29) hx hb htg ig_7 hown hK hP 0 rfl rfl 7 (by decide) (htg _ q_980) (fun _ h9 => h9) rfl dX7_feed_52 ?_
      refine lv_dup_x1 hx hb dX7_feed_55 rfl rfl ?_
      refine lv_iconst (v := 1) hx hb dX7_feed_56 (by decide) ?_
      refine lv_iadd hx hb dX7_feed_57 ?_
      refine oh_nrm (v := 1) (by decide) ?_
      refine va_put (D := D) (ci := 7) (v := .int 1) (ty := .int) (C := RX7) (T := TX7) (N := 29) hx hb htg ig_7 tyX7 tyX7_ok nmX7 hown hK hP hD hS 0 rfl rfl 7 (by decide) (htg _ q_980) (fun _ h9 => h9) rfl (by decide +kernel) rfl rfl (Nat.le_of_ble_eq_true rfl) dX7_feed_58 (fun H locs hP hD hS => ?_)
      have hP : va_P D vwCl [(a0, .inr (7, [.ref a0_shelf, .ref a0_rowSort, .ref a0_rowSize, .ref a0_rows, .ref a0_moved, .ref a0_shown, .ref a0_tape, .int 1, .ref a0_refused, .int 0, .ref a0_road, .int 0, .ref a0_bridge, .int 0, .ref a0_waggon, .int 0, .ref a0_part, .ref a0_asked, .ref a0_under, .int 0, .null, .int 0, .int 0, .int 0, .long 0, .int 0, .int 0, .ref a0_far, .int 0])), (a0_tape, .inl (E 0, 250, .inl (fun _ => 0))), (a0_refused, .inl (E 0, 8, .inl (fun _ => 0)))] H := hP
      have hD : va_D A [(a0, .inr (7, [.ref a0_shelf, .ref a0_rowSort, .ref a0_rowSize, .ref a0_rows, .ref a0_moved, .ref a0_shown, .ref a0_tape, .int 1, .ref a0_refused, .int 0, .ref a0_road, .int 0, .ref a0_bridge, .int 0, .ref a0_waggon, .int 0, .ref a0_part, .ref a0_asked, .ref a0_under, .int 0, .null, .int 0, .int 0, .int 0, .long 0, .int 0, .int 0, .ref a0_far, .int 0])), (a0_tape, .inl (E 0, 250, .inl (fun _ => 0))), (a0_refused, .inl (E 0, 8, .inl (fun _ => 0)))] := hD
      refine lv_iload_n hx hb dX7_feed_61 rfl (lv_at hl 2 rfl) ?_
      refine lv_bipush (v := 8) hx hb dX7_feed_62 (by decide) ?_
      refine lv_iload_n hx hb dX7_feed_64 rfl (lv_at hl 0 rfl) ?_
      refine lv_imul hx hb dX7_feed_65 ?_
      refine oh_nrm (v := 16) (by decide) ?_
      refine lv_ishr hx hb dX7_feed_66 ?_
      refine lv_sipush (v := 255) hx hb dX7_feed_67 (by decide) ?_
      refine lv_iand hx hb dX7_feed_70 ?_
      refine va_iast hx hb hK hP hD hS 1 0 rfl rfl (show vp_in 0 250 by unfold vp_in; decide) dX7_feed_71 (fun H locs hP hD hS => ?_)
      have hP : va_P D vwCl [(a0, .inr (7, [.ref a0_shelf, .ref a0_rowSort, .ref a0_rowSize, .ref a0_rows, .ref a0_moved, .ref a0_shown, .ref a0_tape, .int 1, .ref a0_refused, .int 0, .ref a0_road, .int 0, .ref a0_bridge, .int 0, .ref a0_waggon, .int 0, .ref a0_part, .ref a0_asked, .ref a0_under, .int 0, .null, .int 0, .int 0, .int 0, .long 0, .int 0, .int 0, .ref a0_far, .int 0])), (a0_tape, .inl (E 0, 250, .inl (upd (fun _ => 0) 0 ((v_a >>> ((16 : Int32) &&& 31)) &&& 255)))), (a0_refused, .inl (E 0, 8, .inl (fun _ => 0)))] H := hP
      have hD : va_D A [(a0, .inr (7, [.ref a0_shelf, .ref a0_rowSort, .ref a0_rowSize, .ref a0_rows, .ref a0_moved, .ref a0_shown, .ref a0_tape, .int 1, .ref a0_refused, .int 0, .ref a0_road, .int 0, .ref a0_bridge, .int 0, .ref a0_waggon, .int 0, .ref a0_part, .ref a0_asked, .ref a0_under, .int 0, .null, .int 0, .int 0, .int 0, .long 0, .int 0, .int 0, .ref a0_far, .int 0])), (a0_tape, .inl (E 0, 250, .inl (upd (fun _ => 0) 0 ((v_a >>> ((16 : Int32) &&& 31)) &&& 255)))), (a0_refused, .inl (E 0, 8, .inl (fun _ => 0)))] := hD
      refine lv_iinc (v := 1) (lv' := [(3, .int 1), (0, .ref a0), (1, .int v_a), (2, .int 3)]) hx hb dX7_feed_72 hl (k := 0) rfl (by decide) (by decide) rfl (fun ls hl => ?_)
      refine lv_goto (tgt := 42) hx hb dX7_feed_75 (by decide) ?_
      refine lv_iload_n hx hb dX7_feed_42 rfl (lv_at hl 0 rfl) ?_
      refine lv_if_lt (tgt := 78) hx hb dX7_feed_43 (by decide) (fun c => absurd c (show ¬ ((1 : Int32) < 0) from by decide)) (fun _ => ?_)
      refine lv_aload_n hx hb dX7_feed_46 rfl (lv_at hl 1 rfl) ?_
      refine va_get (D := D) (ci := 7) (v := .ref a0_tape) (C := RX7) (T := TX7) (N := 29) hx hb htg ig_7 hown hK hP 0 rfl rfl 6 (by decide) (htg _ q_979) (fun _ h9 => h9) rfl dX7_feed_47 ?_
      refine lv_aload_n hx hb dX7_feed_50 rfl (lv_at hl 1 rfl) ?_
      refine lv_dup hx hb dX7_feed_51 rfl ?_
      refine va_get (D := D) (ci := 7) (v := .int 1) (C := RX7) (T := TX7) (N := 29) hx hb htg ig_7 hown hK hP 0 rfl rfl 7 (by decide) (htg _ q_980) (fun _ h9 => h9) rfl dX7_feed_52 ?_
      refine lv_dup_x1 hx hb dX7_feed_55 rfl rfl ?_
      refine lv_iconst (v := 1) hx hb dX7_feed_56 (by decide) ?_
      refine lv_iadd hx hb dX7_feed_57 ?_
      refine oh_nrm (v := 2) (by decide) ?_
      refine va_put (D := D) (ci := 7) (v := .int 2) (ty := .int) (C := RX7) (T := TX7) (N := 29) hx hb htg ig_7 tyX7 tyX7_ok nmX7 hown hK hP hD hS 0 rfl rfl 7 (by decide) (htg _ q_980) (fun _ h9 => h9) rfl (by decide +kernel) rfl rfl (Nat.le_of_ble_eq_true rfl) dX7_feed_58 (fun H locs hP hD hS => ?_)
      have hP : va_P D vwCl [(a0, .inr (7, [.ref a0_shelf, .ref a0_rowSort, .ref a0_rowSize, .ref a0_rows, .ref a0_moved, .ref a0_shown, .ref a0_tape, .int 2, .ref a0_refused, .int 0, .ref a0_road, .int 0, .ref a0_bridge, .int 0, .ref a0_waggon, .int 0, .ref a0_part, .ref a0_asked, .ref a0_under, .int 0, .null, .int 0, .int 0, .int 0, .long 0, .int 0, .int 0, .ref a0_far, .int 0])), (a0_tape, .inl (E 0, 250, .inl (upd (fun _ => 0) 0 ((v_a >>> ((16 : Int32) &&& 31)) &&& 255)))), (a0_refused, .inl (E 0, 8, .inl (fun _ => 0)))] H := hP
      have hD : va_D A [(a0, .inr (7, [.ref a0_shelf, .ref a0_rowSort, .ref a0_rowSize, .ref a0_rows, .ref a0_moved, .ref a0_shown, .ref a0_tape, .int 2, .ref a0_refused, .int 0, .ref a0_road, .int 0, .ref a0_bridge, .int 0, .ref a0_waggon, .int 0, .ref a0_part, .ref a0_asked, .ref a0_under, .int 0, .null, .int 0, .int 0, .int 0, .long 0, .int 0, .int 0, .ref a0_far, .int 0])), (a0_tape, .inl (E 0, 250, .inl (upd (fun _ => 0) 0 ((v_a >>> ((16 : Int32) &&& 31)) &&& 255)))), (a0_refused, .inl (E 0, 8, .inl (fun _ => 0)))] := hD
      refine lv_iload_n hx hb dX7_feed_61 rfl (lv_at hl 2 rfl) ?_
      refine lv_bipush (v := 8) hx hb dX7_feed_62 (by decide) ?_
      refine lv_iload_n hx hb dX7_feed_64 rfl (lv_at hl 0 rfl) ?_
      refine lv_imul hx hb dX7_feed_65 ?_
      refine oh_nrm (v := 8) (by decide) ?_
      refine lv_ishr hx hb dX7_feed_66 ?_
      refine lv_sipush (v := 255) hx hb dX7_feed_67 (by decide) ?_
      refine lv_iand hx hb dX7_feed_70 ?_
      refine va_iast hx hb hK hP hD hS 1 0 rfl rfl (show vp_in 1 250 by unfold vp_in; decide) dX7_feed_71 (fun H locs hP hD hS => ?_)
      have hP : va_P D vwCl [(a0, .inr (7, [.ref a0_shelf, .ref a0_rowSort, .ref a0_rowSize, .ref a0_rows, .ref a0_moved, .ref a0_shown, .ref a0_tape, .int 2, .ref a0_refused, .int 0, .ref a0_road, .int 0, .ref a0_bridge, .int 0, .ref a0_waggon, .int 0, .ref a0_part, .ref a0_asked, .ref a0_under, .int 0, .null, .int 0, .int 0, .int 0, .long 0, .int 0, .int 0, .ref a0_far, .int 0])), (a0_tape, .inl (E 0, 250, .inl (upd (upd (fun _ => 0) 0 ((v_a >>> ((16 : Int32) &&& 31)) &&& 255)) 1 ((v_a >>> ((8 : Int32) &&& 31)) &&& 255)))), (a0_refused, .inl (E 0, 8, .inl (fun _ => 0)))] H := hP
      have hD : va_D A [(a0, .inr (7, [.ref a0_shelf, .ref a0_rowSort, .ref a0_rowSize, .ref a0_rows, .ref a0_moved, .ref a0_shown, .ref a0_tape, .int 2, .ref a0_refused, .int 0, .ref a0_road, .int 0, .ref a0_bridge, .int 0, .ref a0_waggon, .int 0, .ref a0_part, .ref a0_asked, .ref a0_under, .int 0, .null, .int 0, .int 0, .int 0, .long 0, .int 0, .int 0, .ref a0_far, .int 0])), (a0_tape, .inl (E 0, 250, .inl (upd (upd (fun _ => 0) 0 ((v_a >>> ((16 : Int32) &&& 31)) &&& 255)) 1 ((v_a >>> ((8 : Int32) &&& 31)) &&& 255)))), (a0_refused, .inl (E 0, 8, .inl (fun _ => 0)))] := hD
      refine lv_iinc (v := 0) (lv' := [(3, .int 0), (0, .ref a0), (1, .int v_a), (2, .int 3)]) hx hb dX7_feed_72 hl (k := 0) rfl (by decide) (by decide) rfl (fun ls hl => ?_)
      refine lv_goto (tgt := 42) hx hb dX7_feed_75 (by decide) ?_
      refine lv_iload_n hx hb dX7_feed_42 rfl (lv_at hl 0 rfl) ?_
      refine lv_if_lt (tgt := 78) hx hb dX7_feed_43 (by decide) (fun c => absurd c (show ¬ ((0 : Int32) < 0) from by decide)) (fun _ => ?_)
      refine lv_aload_n hx hb dX7_feed_46 rfl (lv_at hl 1 rfl) ?_
      refine va_get (D := D) (ci := 7) (v := .ref a0_tape) (C := RX7) (T := TX7) (N := 29) hx hb htg ig_7 hown hK hP 0 rfl rfl 6 (by decide) (htg _ q_979) (fun _ h9 => h9) rfl dX7_feed_47 ?_
      refine lv_aload_n hx hb dX7_feed_50 rfl (lv_at hl 1 rfl) ?_
      refine lv_dup hx hb dX7_feed_51 rfl ?_
      refine va_get (D := D) (ci := 7) (v := .int 2) (C := RX7) (T := TX7) (N := 29) hx hb htg ig_7 hown hK hP 0 rfl rfl 7 (by decide) (htg _ q_980) (fun _ h9 => h9) rfl dX7_feed_52 ?_
      refine lv_dup_x1 hx hb dX7_feed_55 rfl rfl ?_
      refine lv_iconst (v := 1) hx hb dX7_feed_56 (by decide) ?_
      refine lv_iadd hx hb dX7_feed_57 ?_
      refine oh_nrm (v := 3) (by decide) ?_
      refine va_put (D := D) (ci := 7) (v := .int 3) (ty := .int) (C := RX7) (T := TX7) (N := 29) hx hb htg ig_7 tyX7 tyX7_ok nmX7 hown hK hP hD hS 0 rfl rfl 7 (by decide) (htg _ q_980) (fun _ h9 => h9) rfl (by decide +kernel) rfl rfl (Nat.le_of_ble_eq_true rfl) dX7_feed_58 (fun H locs hP hD hS => ?_)
      have hP : va_P D vwCl [(a0, .inr (7, [.ref a0_shelf, .ref a0_rowSort, .ref a0_rowSize, .ref a0_rows, .ref a0_moved, .ref a0_shown, .ref a0_tape, .int 3, .ref a0_refused, .int 0, .ref a0_road, .int 0, .ref a0_bridge, .int 0, .ref a0_waggon, .int 0, .ref a0_part, .ref a0_asked, .ref a0_under, .int 0, .null, .int 0, .int 0, .int 0, .long 0, .int 0, .int 0, .ref a0_far, .int 0])), (a0_tape, .inl (E 0, 250, .inl (upd (upd (fun _ => 0) 0 ((v_a >>> ((16 : Int32) &&& 31)) &&& 255)) 1 ((v_a >>> ((8 : Int32) &&& 31)) &&& 255)))), (a0_refused, .inl (E 0, 8, .inl (fun _ => 0)))] H := hP
      have hD : va_D A [(a0, .inr (7, [.ref a0_shelf, .ref a0_rowSort, .ref a0_rowSize, .ref a0_rows, .ref a0_moved, .ref a0_shown, .ref a0_tape, .int 3, .ref a0_refused, .int 0, .ref a0_road, .int 0, .ref a0_bridge, .int 0, .ref a0_waggon, .int 0, .ref a0_part, .ref a0_asked, .ref a0_under, .int 0, .null, .int 0, .int 0, .int 0, .long 0, .int 0, .int 0, .ref a0_far, .int 0])), (a0_tape, .inl (E 0, 250, .inl (upd (upd (fun _ => 0) 0 ((v_a >>> ((16 : Int32) &&& 31)) &&& 255)) 1 ((v_a >>> ((8 : Int32) &&& 31)) &&& 255)))), (a0_refused, .inl (E 0, 8, .inl (fun _ => 0)))] := hD
      refine lv_iload_n hx hb dX7_feed_61 rfl (lv_at hl 2 rfl) ?_
      refine lv_bipush (v := 8) hx hb dX7_feed_62 (by decide) ?_
      refine lv_iload_n hx hb dX7_feed_64 rfl (lv_at hl 0 rfl) ?_
      refine lv_imul hx hb dX7_feed_65 ?_
      refine oh_nrm (v := 0) (by decide) ?_
      refine lv_ishr hx hb dX7_feed_66 ?_
      refine lv_sipush (v := 255) hx hb dX7_feed_67 (by decide) ?_
      refine lv_iand hx hb dX7_feed_70 ?_
      refine va_iast hx hb hK hP hD hS 1 0 rfl rfl (show vp_in 2 250 by unfold vp_in; decide) dX7_feed_71 (fun H locs hP hD hS => ?_)
      have hP : va_P D vwCl [(a0, .inr (7, [.ref a0_shelf, .ref a0_rowSort, .ref a0_rowSize, .ref a0_rows, .ref a0_moved, .ref a0_shown, .ref a0_tape, .int 3, .ref a0_refused, .int 0, .ref a0_road, .int 0, .ref a0_bridge, .int 0, .ref a0_waggon, .int 0, .ref a0_part, .ref a0_asked, .ref a0_under, .int 0, .null, .int 0, .int 0, .int 0, .long 0, .int 0, .int 0, .ref a0_far, .int 0])), (a0_tape, .inl (E 0, 250, .inl (upd (upd (upd (fun _ => 0) 0 ((v_a >>> ((16 : Int32) &&& 31)) &&& 255)) 1 ((v_a >>> ((8 : Int32) &&& 31)) &&& 255)) 2 ((v_a >>> ((0 : Int32) &&& 31)) &&& 255)))), (a0_refused, .inl (E 0, 8, .inl (fun _ => 0)))] H := hP
      have hD : va_D A [(a0, .inr (7, [.ref a0_shelf, .ref a0_rowSort, .ref a0_rowSize, .ref a0_rows, .ref a0_moved, .ref a0_shown, .ref a0_tape, .int 3, .ref a0_refused, .int 0, .ref a0_road, .int 0, .ref a0_bridge, .int 0, .ref a0_waggon, .int 0, .ref a0_part, .ref a0_asked, .ref a0_under, .int 0, .null, .int 0, .int 0, .int 0, .long 0, .int 0, .int 0, .ref a0_far, .int 0])), (a0_tape, .inl (E 0, 250, .inl (upd (upd (upd (fun _ => 0) 0 ((v_a >>> ((16 : Int32) &&& 31)) &&& 255)) 1 ((v_a >>> ((8 : Int32) &&& 31)) &&& 255)) 2 ((v_a >>> ((0 : Int32) &&& 31)) &&& 255)))), (a0_refused, .inl (E 0, 8, .inl (fun _ => 0)))] := hD
      refine lv_iinc (v := (-1)) (lv' := [(3, .int (-1)), (0, .ref a0), (1, .int v_a), (2, .int 3)]) hx hb dX7_feed_72 hl (k := 0) rfl (by decide) (by decide) rfl (fun ls hl => ?_)
      refine lv_goto (tgt := 42) hx hb dX7_feed_75 (by decide) ?_
      refine lv_iload_n hx hb dX7_feed_42 rfl (lv_at hl 0 rfl) ?_
      refine lv_if_lt (tgt := 78) hx hb dX7_feed_43 (by decide) (fun _ => ?_) (fun c => absurd (show (-1 : Int32) < 0 from by decide) c)
      refine lv_aload_n hx hb dX7_feed_78 rfl (lv_at hl 1 rfl) ?_
      refine va_get (D := D) (ci := 7) (v := .int 3) (C := RX7) (T := TX7) (N := 29) hx hb htg ig_7 hown hK hP 0 rfl rfl 7 (by decide) (htg _ q_980) (fun _ h9 => h9) rfl dX7_feed_79 ?_
      refine W.widen (k := 0) (n := 0) (Nat.le_of_ble_eq_true rfl) (Nat.le_of_ble_eq_true rfl) ?_
      exact W.iret (v := 3) hx hb hr (fun t ht hW => ⟨⟨3, (), rfl, by unfold fX7_feed; rw [if_neg c_1], ⟨by rw [ht]; exact hP.sub [] rfl, hD.sub [] (by decide) rfl⟩⟩, hS.F ht⟩) hS.2.2 dX7_feed_82
    · refine lv_iload_n hx hb dX7_feed_38 rfl (lv_at hl 2 rfl) ?_
      refine lv_iconst (v := 1) hx hb dX7_feed_39 (by decide) ?_
      refine lv_isub hx hb dX7_feed_40 ?_
      refine oh_nrm (v := 3) (by decide) ?_
      refine lv_istore_n (lv' := [(3, .int 3), (0, .ref a0), (1, .int v_a), (2, .int 4)]) hx hb dX7_feed_41 rfl hl (by decide) rfl (fun ls hl => ?_)
      refine lv_iload_n hx hb dX7_feed_42 rfl (lv_at hl 0 rfl) ?_
      refine lv_if_lt (tgt := 78) hx hb dX7_feed_43 (by decide) (fun c => absurd c (show ¬ ((3 : Int32) < 0) from by decide)) (fun _ => ?_)
      refine lv_aload_n hx hb dX7_feed_46 rfl (lv_at hl 1 rfl) ?_
      refine va_get (D := D) (ci := 7) (v := .ref a0_tape) (C := RX7) (T := TX7) (N := 29) hx hb htg ig_7 hown hK hP 0 rfl rfl 6 (by decide) (htg _ q_979) (fun _ h9 => h9) rfl dX7_feed_47 ?_
      refine lv_aload_n hx hb dX7_feed_50 rfl (lv_at hl 1 rfl) ?_
      refine lv_dup hx hb dX7_feed_51 rfl ?_
      refine va_get (D := D) (ci := 7) (v := .int 0) (C := RX7) (T := TX7) (N := 29) hx hb htg ig_7 hown hK hP 0 rfl rfl 7 (by decide) (htg _ q_980) (fun _ h9 => h9) rfl dX7_feed_52 ?_
      refine lv_dup_x1 hx hb dX7_feed_55 rfl rfl ?_
      refine lv_iconst (v := 1) hx hb dX7_feed_56 (by decide) ?_
      refine lv_iadd hx hb dX7_feed_57 ?_
      refine oh_nrm (v := 1) (by decide) ?_
      refine va_put (D := D) (ci := 7) (v := .int 1) (ty := .int) (C := RX7) (T := TX7) (N := 29) hx hb htg ig_7 tyX7 tyX7_ok nmX7 hown hK hP hD hS 0 rfl rfl 7 (by decide) (htg _ q_980) (fun _ h9 => h9) rfl (by decide +kernel) rfl rfl (Nat.le_of_ble_eq_true rfl) dX7_feed_58 (fun H locs hP hD hS => ?_)
      have hP : va_P D vwCl [(a0, .inr (7, [.ref a0_shelf, .ref a0_rowSort, .ref a0_rowSize, .ref a0_rows, .ref a0_moved, .ref a0_shown, .ref a0_tape, .int 1, .ref a0_refused, .int 0, .ref a0_road, .int 0, .ref a0_bridge, .int 0, .ref a0_waggon, .int 0, .ref a0_part, .ref a0_asked, .ref a0_under, .int 0, .null, .int 0, .int 0, .int 0, .long 0, .int 0, .int 0, .ref a0_far, .int 0])), (a0_tape, .inl (E 0, 250, .inl (fun _ => 0))), (a0_refused, .inl (E 0, 8, .inl (fun _ => 0)))] H := hP
      have hD : va_D A [(a0, .inr (7, [.ref a0_shelf, .ref a0_rowSort, .ref a0_rowSize, .ref a0_rows, .ref a0_moved, .ref a0_shown, .ref a0_tape, .int 1, .ref a0_refused, .int 0, .ref a0_road, .int 0, .ref a0_bridge, .int 0, .ref a0_waggon, .int 0, .ref a0_part, .ref a0_asked, .ref a0_under, .int 0, .null, .int 0, .int 0, .int 0, .long 0, .int 0, .int 0, .ref a0_far, .int 0])), (a0_tape, .inl (E 0, 250, .inl (fun _ => 0))), (a0_refused, .inl (E 0, 8, .inl (fun _ => 0)))] := hD
      refine lv_iload_n hx hb dX7_feed_61 rfl (lv_at hl 2 rfl) ?_
      refine lv_bipush (v := 8) hx hb dX7_feed_62 (by decide) ?_
      refine lv_iload_n hx hb dX7_feed_64 rfl (lv_at hl 0 rfl) ?_
      refine lv_imul hx hb dX7_feed_65 ?_
      refine oh_nrm (v := 24) (by decide) ?_
      refine lv_ishr hx hb dX7_feed_66 ?_
      refine lv_sipush (v := 255) hx hb dX7_feed_67 (by decide) ?_
      refine lv_iand hx hb dX7_feed_70 ?_
      refine va_iast hx hb hK hP hD hS 1 0 rfl rfl (show vp_in 0 250 by unfold vp_in; decide) dX7_feed_71 (fun H locs hP hD hS => ?_)
      have hP : va_P D vwCl [(a0, .inr (7, [.ref a0_shelf, .ref a0_rowSort, .ref a0_rowSize, .ref a0_rows, .ref a0_moved, .ref a0_shown, .ref a0_tape, .int 1, .ref a0_refused, .int 0, .ref a0_road, .int 0, .ref a0_bridge, .int 0, .ref a0_waggon, .int 0, .ref a0_part, .ref a0_asked, .ref a0_under, .int 0, .null, .int 0, .int 0, .int 0, .long 0, .int 0, .int 0, .ref a0_far, .int 0])), (a0_tape, .inl (E 0, 250, .inl (upd (fun _ => 0) 0 ((v_a >>> ((24 : Int32) &&& 31)) &&& 255)))), (a0_refused, .inl (E 0, 8, .inl (fun _ => 0)))] H := hP
      have hD : va_D A [(a0, .inr (7, [.ref a0_shelf, .ref a0_rowSort, .ref a0_rowSize, .ref a0_rows, .ref a0_moved, .ref a0_shown, .ref a0_tape, .int 1, .ref a0_refused, .int 0, .ref a0_road, .int 0, .ref a0_bridge, .int 0, .ref a0_waggon, .int 0, .ref a0_part, .ref a0_asked, .ref a0_under, .int 0, .null, .int 0, .int 0, .int 0, .long 0, .int 0, .int 0, .ref a0_far, .int 0])), (a0_tape, .inl (E 0, 250, .inl (upd (fun _ => 0) 0 ((v_a >>> ((24 : Int32) &&& 31)) &&& 255)))), (a0_refused, .inl (E 0, 8, .inl (fun _ => 0)))] := hD
      refine lv_iinc (v := 2) (lv' := [(3, .int 2), (0, .ref a0), (1, .int v_a), (2, .int 4)]) hx hb dX7_feed_72 hl (k := 0) rfl (by decide) (by decide) rfl (fun ls hl => ?_)
      refine lv_goto (tgt := 42) hx hb dX7_feed_75 (by decide) ?_
      refine lv_iload_n hx hb dX7_feed_42 rfl (lv_at hl 0 rfl) ?_
      refine lv_if_lt (tgt := 78) hx hb dX7_feed_43 (by decide) (fun c => absurd c (show ¬ ((2 : Int32) < 0) from by decide)) (fun _ => ?_)
      refine lv_aload_n hx hb dX7_feed_46 rfl (lv_at hl 1 rfl) ?_
      refine va_get (D := D) (ci := 7) (v := .ref a0_tape) (C := RX7) (T := TX7) (N := 29) hx hb htg ig_7 hown hK hP 0 rfl rfl 6 (by decide) (htg _ q_979) (fun _ h9 => h9) rfl dX7_feed_47 ?_
      refine lv_aload_n hx hb dX7_feed_50 rfl (lv_at hl 1 rfl) ?_
      refine lv_dup hx hb dX7_feed_51 rfl ?_
      refine va_get (D := D) (ci := 7) (v := .int 1) (C := RX7) (T := TX7) (N := 29) hx hb htg ig_7 hown hK hP 0 rfl rfl 7 (by decide) (htg _ q_980) (fun _ h9 => h9) rfl dX7_feed_52 ?_
      refine lv_dup_x1 hx hb dX7_feed_55 rfl rfl ?_
      refine lv_iconst (v := 1) hx hb dX7_feed_56 (by decide) ?_
      refine lv_iadd hx hb dX7_feed_57 ?_
      refine oh_nrm (v := 2) (by decide) ?_
      refine va_put (D := D) (ci := 7) (v := .int 2) (ty := .int) (C := RX7) (T := TX7) (N := 29) hx hb htg ig_7 tyX7 tyX7_ok nmX7 hown hK hP hD hS 0 rfl rfl 7 (by decide) (htg _ q_980) (fun _ h9 => h9) rfl (by decide +kernel) rfl rfl (Nat.le_of_ble_eq_true rfl) dX7_feed_58 (fun H locs hP hD hS => ?_)
      have hP : va_P D vwCl [(a0, .inr (7, [.ref a0_shelf, .ref a0_rowSort, .ref a0_rowSize, .ref a0_rows, .ref a0_moved, .ref a0_shown, .ref a0_tape, .int 2, .ref a0_refused, .int 0, .ref a0_road, .int 0, .ref a0_bridge, .int 0, .ref a0_waggon, .int 0, .ref a0_part, .ref a0_asked, .ref a0_under, .int 0, .null, .int 0, .int 0, .int 0, .long 0, .int 0, .int 0, .ref a0_far, .int 0])), (a0_tape, .inl (E 0, 250, .inl (upd (fun _ => 0) 0 ((v_a >>> ((24 : Int32) &&& 31)) &&& 255)))), (a0_refused, .inl (E 0, 8, .inl (fun _ => 0)))] H := hP
      have hD : va_D A [(a0, .inr (7, [.ref a0_shelf, .ref a0_rowSort, .ref a0_rowSize, .ref a0_rows, .ref a0_moved, .ref a0_shown, .ref a0_tape, .int 2, .ref a0_refused, .int 0, .ref a0_road, .int 0, .ref a0_bridge, .int 0, .ref a0_waggon, .int 0, .ref a0_part, .ref a0_asked, .ref a0_under, .int 0, .null, .int 0, .int 0, .int 0, .long 0, .int 0, .int 0, .ref a0_far, .int 0])), (a0_tape, .inl (E 0, 250, .inl (upd (fun _ => 0) 0 ((v_a >>> ((24 : Int32) &&& 31)) &&& 255)))), (a0_refused, .inl (E 0, 8, .inl (fun _ => 0)))] := hD
      refine lv_iload_n hx hb dX7_feed_61 rfl (lv_at hl 2 rfl) ?_
      refine lv_bipush (v := 8) hx hb dX7_feed_62 (by decide) ?_
      refine lv_iload_n hx hb dX7_feed_64 rfl (lv_at hl 0 rfl) ?_
      refine lv_imul hx hb dX7_feed_65 ?_
      refine oh_nrm (v := 16) (by decide) ?_
      refine lv_ishr hx hb dX7_feed_66 ?_
      refine lv_sipush (v := 255) hx hb dX7_feed_67 (by decide) ?_
      refine lv_iand hx hb dX7_feed_70 ?_
      refine va_iast hx hb hK hP hD hS 1 0 rfl rfl (show vp_in 1 250 by unfold vp_in; decide) dX7_feed_71 (fun H locs hP hD hS => ?_)
      have hP : va_P D vwCl [(a0, .inr (7, [.ref a0_shelf, .ref a0_rowSort, .ref a0_rowSize, .ref a0_rows, .ref a0_moved, .ref a0_shown, .ref a0_tape, .int 2, .ref a0_refused, .int 0, .ref a0_road, .int 0, .ref a0_bridge, .int 0, .ref a0_waggon, .int 0, .ref a0_part, .ref a0_asked, .ref a0_under, .int 0, .null, .int 0, .int 0, .int 0, .long 0, .int 0, .int 0, .ref a0_far, .int 0])), (a0_tape, .inl (E 0, 250, .inl (upd (upd (fun _ => 0) 0 ((v_a >>> ((24 : Int32) &&& 31)) &&& 255)) 1 ((v_a >>> ((16 : Int32) &&& 31)) &&& 255)))), (a0_refused, .inl (E 0, 8, .inl (fun _ => 0)))] H := hP
      have hD : va_D A [(a0, .inr (7, [.ref a0_shelf, .ref a0_rowSort, .ref a0_rowSize, .ref a0_rows, .ref a0_moved, .ref a0_shown, .ref a0_tape, .int 2, .ref a0_refused, .int 0, .ref a0_road, .int 0, .ref a0_bridge, .int 0, .ref a0_waggon, .int 0, .ref a0_part, .ref a0_asked, .ref a0_under, .int 0, .null, .int 0, .int 0, .int 0, .long 0, .int 0, .int 0, .ref a0_far, .int 0])), (a0_tape, .inl (E 0, 250, .inl (upd (upd (fun _ => 0) 0 ((v_a >>> ((24 : Int32) &&& 31)) &&& 255)) 1 ((v_a >>> ((16 : Int32) &&& 31)) &&& 255)))), (a0_refused, .inl (E 0, 8, .inl (fun _ => 0)))] := hD
      refine lv_iinc (v := 1) (lv' := [(3, .int 1), (0, .ref a0), (1, .int v_a), (2, .int 4)]) hx hb dX7_feed_72 hl (k := 0) rfl (by decide) (by decide) rfl (fun ls hl => ?_)
      refine lv_goto (tgt := 42) hx hb dX7_feed_75 (by decide) ?_
      refine lv_iload_n hx hb dX7_feed_42 rfl (lv_at hl 0 rfl) ?_
      refine lv_if_lt (tgt := 78) hx hb dX7_feed_43 (by decide) (fun c => absurd c (show ¬ ((1 : Int32) < 0) from by decide)) (fun _ => ?_)
      refine lv_aload_n hx hb dX7_feed_46 rfl (lv_at hl 1 rfl) ?_
      refine va_get (D := D) (ci := 7) (v := .ref a0_tape) (C := RX7) (T := TX7) (N := 29) hx hb htg ig_7 hown hK hP 0 rfl rfl 6 (by decide) (htg _ q_979) (fun _ h9 => h9) rfl dX7_feed_47 ?_
      refine lv_aload_n hx hb dX7_feed_50 rfl (lv_at hl 1 rfl) ?_
      refine lv_dup hx hb dX7_feed_51 rfl ?_
      refine va_get (D := D) (ci := 7) (v := .int 2) (C := RX7) (T := TX7) (N := 29) hx hb htg ig_7 hown hK hP 0 rfl rfl 7 (by decide) (htg _ q_980) (fun _ h9 => h9) rfl dX7_feed_52 ?_
      refine lv_dup_x1 hx hb dX7_feed_55 rfl rfl ?_
      refine lv_iconst (v := 1) hx hb dX7_feed_56 (by decide) ?_
      refine lv_iadd hx hb dX7_feed_57 ?_
      refine oh_nrm (v := 3) (by decide) ?_
      refine va_put (D := D) (ci := 7) (v := .int 3) (ty := .int) (C := RX7) (T := TX7) (N := 29) hx hb htg ig_7 tyX7 tyX7_ok nmX7 hown hK hP hD hS 0 rfl rfl 7 (by decide) (htg _ q_980) (fun _ h9 => h9) rfl (by decide +kernel) rfl rfl (Nat.le_of_ble_eq_true rfl) dX7_feed_58 (fun H locs hP hD hS => ?_)
      have hP : va_P D vwCl [(a0, .inr (7, [.ref a0_shelf, .ref a0_rowSort, .ref a0_rowSize, .ref a0_rows, .ref a0_moved, .ref a0_shown, .ref a0_tape, .int 3, .ref a0_refused, .int 0, .ref a0_road, .int 0, .ref a0_bridge, .int 0, .ref a0_waggon, .int 0, .ref a0_part, .ref a0_asked, .ref a0_under, .int 0, .null, .int 0, .int 0, .int 0, .long 0, .int 0, .int 0, .ref a0_far, .int 0])), (a0_tape, .inl (E 0, 250, .inl (upd (upd (fun _ => 0) 0 ((v_a >>> ((24 : Int32) &&& 31)) &&& 255)) 1 ((v_a >>> ((16 : Int32) &&& 31)) &&& 255)))), (a0_refused, .inl (E 0, 8, .inl (fun _ => 0)))] H := hP
      have hD : va_D A [(a0, .inr (7, [.ref a0_shelf, .ref a0_rowSort, .ref a0_rowSize, .ref a0_rows, .ref a0_moved, .ref a0_shown, .ref a0_tape, .int 3, .ref a0_refused, .int 0, .ref a0_road, .int 0, .ref a0_bridge, .int 0, .ref a0_waggon, .int 0, .ref a0_part, .ref a0_asked, .ref a0_under, .int 0, .null, .int 0, .int 0, .int 0, .long 0, .int 0, .int 0, .ref a0_far, .int 0])), (a0_tape, .inl (E 0, 250, .inl (upd (upd (fun _ => 0) 0 ((v_a >>> ((24 : Int32) &&& 31)) &&& 255)) 1 ((v_a >>> ((16 : Int32) &&& 31)) &&& 255)))), (a0_refused, .inl (E 0, 8, .inl (fun _ => 0)))] := hD
      refine lv_iload_n hx hb dX7_feed_61 rfl (lv_at hl 2 rfl) ?_
      refine lv_bipush (v := 8) hx hb dX7_feed_62 (by decide) ?_
      refine lv_iload_n hx hb dX7_feed_64 rfl (lv_at hl 0 rfl) ?_
      refine lv_imul hx hb dX7_feed_65 ?_
      refine oh_nrm (v := 8) (by decide) ?_
      refine lv_ishr hx hb dX7_feed_66 ?_
      refine lv_sipush (v := 255) hx hb dX7_feed_67 (by decide) ?_
      refine lv_iand hx hb dX7_feed_70 ?_
      refine va_iast hx hb hK hP hD hS 1 0 rfl rfl (show vp_in 2 250 by unfold vp_in; decide) dX7_feed_71 (fun H locs hP hD hS => ?_)
      have hP : va_P D vwCl [(a0, .inr (7, [.ref a0_shelf, .ref a0_rowSort, .ref a0_rowSize, .ref a0_rows, .ref a0_moved, .ref a0_shown, .ref a0_tape, .int 3, .ref a0_refused, .int 0, .ref a0_road, .int 0, .ref a0_bridge, .int 0, .ref a0_waggon, .int 0, .ref a0_part, .ref a0_asked, .ref a0_under, .int 0, .null, .int 0, .int 0, .int 0, .long 0, .int 0, .int 0, .ref a0_far, .int 0])), (a0_tape, .inl (E 0, 250, .inl (upd (upd (upd (fun _ => 0) 0 ((v_a >>> ((24 : Int32) &&& 31)) &&& 255)) 1 ((v_a >>> ((16 : Int32) &&& 31)) &&& 255)) 2 ((v_a >>> ((8 : Int32) &&& 31)) &&& 255)))), (a0_refused, .inl (E 0, 8, .inl (fun _ => 0)))] H := hP
      have hD : va_D A [(a0, .inr (7, [.ref a0_shelf, .ref a0_rowSort, .ref a0_rowSize, .ref a0_rows, .ref a0_moved, .ref a0_shown, .ref a0_tape, .int 3, .ref a0_refused, .int 0, .ref a0_road, .int 0, .ref a0_bridge, .int 0, .ref a0_waggon, .int 0, .ref a0_part, .ref a0_asked, .ref a0_under, .int 0, .null, .int 0, .int 0, .int 0, .long 0, .int 0, .int 0, .ref a0_far, .int 0])), (a0_tape, .inl (E 0, 250, .inl (upd (upd (upd (fun _ => 0) 0 ((v_a >>> ((24 : Int32) &&& 31)) &&& 255)) 1 ((v_a >>> ((16 : Int32) &&& 31)) &&& 255)) 2 ((v_a >>> ((8 : Int32) &&& 31)) &&& 255)))), (a0_refused, .inl (E 0, 8, .inl (fun _ => 0)))] := hD
      refine lv_iinc (v := 0) (lv' := [(3, .int 0), (0, .ref a0), (1, .int v_a), (2, .int 4)]) hx hb dX7_feed_72 hl (k := 0) rfl (by decide) (by decide) rfl (fun ls hl => ?_)
      refine lv_goto (tgt := 42) hx hb dX7_feed_75 (by decide) ?_
      refine lv_iload_n hx hb dX7_feed_42 rfl (lv_at hl 0 rfl) ?_
      refine lv_if_lt (tgt := 78) hx hb dX7_feed_43 (by decide) (fun c => absurd c (show ¬ ((0 : Int32) < 0) from by decide)) (fun _ => ?_)
      refine lv_aload_n hx hb dX7_feed_46 rfl (lv_at hl 1 rfl) ?_
      refine va_get (D := D) (ci := 7) (v := .ref a0_tape) (C := RX7) (T := TX7) (N := 29) hx hb htg ig_7 hown hK hP 0 rfl rfl 6 (by decide) (htg _ q_979) (fun _ h9 => h9) rfl dX7_feed_47 ?_
      refine lv_aload_n hx hb dX7_feed_50 rfl (lv_at hl 1 rfl) ?_
      refine lv_dup hx hb dX7_feed_51 rfl ?_
      refine va_get (D := D) (ci := 7) (v := .int 3) (C := RX7) (T := TX7) (N := 29) hx hb htg ig_7 hown hK hP 0 rfl rfl 7 (by decide) (htg _ q_980) (fun _ h9 => h9) rfl dX7_feed_52 ?_
      refine lv_dup_x1 hx hb dX7_feed_55 rfl rfl ?_
      refine lv_iconst (v := 1) hx hb dX7_feed_56 (by decide) ?_
      refine lv_iadd hx hb dX7_feed_57 ?_
      refine oh_nrm (v := 4) (by decide) ?_
      refine va_put (D := D) (ci := 7) (v := .int 4) (ty := .int) (C := RX7) (T := TX7) (N := 29) hx hb htg ig_7 tyX7 tyX7_ok nmX7 hown hK hP hD hS 0 rfl rfl 7 (by decide) (htg _ q_980) (fun _ h9 => h9) rfl (by decide +kernel) rfl rfl (Nat.le_of_ble_eq_true rfl) dX7_feed_58 (fun H locs hP hD hS => ?_)
      have hP : va_P D vwCl [(a0, .inr (7, [.ref a0_shelf, .ref a0_rowSort, .ref a0_rowSize, .ref a0_rows, .ref a0_moved, .ref a0_shown, .ref a0_tape, .int 4, .ref a0_refused, .int 0, .ref a0_road, .int 0, .ref a0_bridge, .int 0, .ref a0_waggon, .int 0, .ref a0_part, .ref a0_asked, .ref a0_under, .int 0, .null, .int 0, .int 0, .int 0, .long 0, .int 0, .int 0, .ref a0_far, .int 0])), (a0_tape, .inl (E 0, 250, .inl (upd (upd (upd (fun _ => 0) 0 ((v_a >>> ((24 : Int32) &&& 31)) &&& 255)) 1 ((v_a >>> ((16 : Int32) &&& 31)) &&& 255)) 2 ((v_a >>> ((8 : Int32) &&& 31)) &&& 255)))), (a0_refused, .inl (E 0, 8, .inl (fun _ => 0)))] H := hP
      have hD : va_D A [(a0, .inr (7, [.ref a0_shelf, .ref a0_rowSort, .ref a0_rowSize, .ref a0_rows, .ref a0_moved, .ref a0_shown, .ref a0_tape, .int 4, .ref a0_refused, .int 0, .ref a0_road, .int 0, .ref a0_bridge, .int 0, .ref a0_waggon, .int 0, .ref a0_part, .ref a0_asked, .ref a0_under, .int 0, .null, .int 0, .int 0, .int 0, .long 0, .int 0, .int 0, .ref a0_far, .int 0])), (a0_tape, .inl (E 0, 250, .inl (upd (upd (upd (fun _ => 0) 0 ((v_a >>> ((24 : Int32) &&& 31)) &&& 255)) 1 ((v_a >>> ((16 : Int32) &&& 31)) &&& 255)) 2 ((v_a >>> ((8 : Int32) &&& 31)) &&& 255)))), (a0_refused, .inl (E 0, 8, .inl (fun _ => 0)))] := hD
      refine lv_iload_n hx hb dX7_feed_61 rfl (lv_at hl 2 rfl) ?_
      refine lv_bipush (v := 8) hx hb dX7_feed_62 (by decide) ?_
      refine lv_iload_n hx hb dX7_feed_64 rfl (lv_at hl 0 rfl) ?_
      refine lv_imul hx hb dX7_feed_65 ?_
      refine oh_nrm (v := 0) (by decide) ?_
      refine lv_ishr hx hb dX7_feed_66 ?_
      refine lv_sipush (v := 255) hx hb dX7_feed_67 (by decide) ?_
      refine lv_iand hx hb dX7_feed_70 ?_
      refine va_iast hx hb hK hP hD hS 1 0 rfl rfl (show vp_in 3 250 by unfold vp_in; decide) dX7_feed_71 (fun H locs hP hD hS => ?_)
      have hP : va_P D vwCl [(a0, .inr (7, [.ref a0_shelf, .ref a0_rowSort, .ref a0_rowSize, .ref a0_rows, .ref a0_moved, .ref a0_shown, .ref a0_tape, .int 4, .ref a0_refused, .int 0, .ref a0_road, .int 0, .ref a0_bridge, .int 0, .ref a0_waggon, .int 0, .ref a0_part, .ref a0_asked, .ref a0_under, .int 0, .null, .int 0, .int 0, .int 0, .long 0, .int 0, .int 0, .ref a0_far, .int 0])), (a0_tape, .inl (E 0, 250, .inl (upd (upd (upd (upd (fun _ => 0) 0 ((v_a >>> ((24 : Int32) &&& 31)) &&& 255)) 1 ((v_a >>> ((16 : Int32) &&& 31)) &&& 255)) 2 ((v_a >>> ((8 : Int32) &&& 31)) &&& 255)) 3 ((v_a >>> ((0 : Int32) &&& 31)) &&& 255)))), (a0_refused, .inl (E 0, 8, .inl (fun _ => 0)))] H := hP
      have hD : va_D A [(a0, .inr (7, [.ref a0_shelf, .ref a0_rowSort, .ref a0_rowSize, .ref a0_rows, .ref a0_moved, .ref a0_shown, .ref a0_tape, .int 4, .ref a0_refused, .int 0, .ref a0_road, .int 0, .ref a0_bridge, .int 0, .ref a0_waggon, .int 0, .ref a0_part, .ref a0_asked, .ref a0_under, .int 0, .null, .int 0, .int 0, .int 0, .long 0, .int 0, .int 0, .ref a0_far, .int 0])), (a0_tape, .inl (E 0, 250, .inl (upd (upd (upd (upd (fun _ => 0) 0 ((v_a >>> ((24 : Int32) &&& 31)) &&& 255)) 1 ((v_a >>> ((16 : Int32) &&& 31)) &&& 255)) 2 ((v_a >>> ((8 : Int32) &&& 31)) &&& 255)) 3 ((v_a >>> ((0 : Int32) &&& 31)) &&& 255)))), (a0_refused, .inl (E 0, 8, .inl (fun _ => 0)))] := hD
      refine lv_iinc (v := (-1)) (lv' := [(3, .int (-1)), (0, .ref a0), (1, .int v_a), (2, .int 4)]) hx hb dX7_feed_72 hl (k := 0) rfl (by decide) (by decide) rfl (fun ls hl => ?_)
      refine lv_goto (tgt := 42) hx hb dX7_feed_75 (by decide) ?_
      refine lv_iload_n hx hb dX7_feed_42 rfl (lv_at hl 0 rfl) ?_
      refine lv_if_lt (tgt := 78) hx hb dX7_feed_43 (by decide) (fun _ => ?_) (fun c => absurd (show (-1 : Int32) < 0 from by decide) c)
      refine lv_aload_n hx hb dX7_feed_78 rfl (lv_at hl 1 rfl) ?_
      refine va_get (D := D) (ci := 7) (v := .int 4) (C := RX7) (T := TX7) (N := 29) hx hb htg ig_7 hown hK hP 0 rfl rfl 7 (by decide) (htg _ q_980) (fun _ h9 => h9) rfl dX7_feed_79 ?_
      refine W.widen (k := 0) (n := 0) (Nat.le_of_ble_eq_true rfl) (Nat.le_of_ble_eq_true rfl) ?_
      exact W.iret (v := 4) hx hb hr (fun t ht hW => ⟨⟨4, (), rfl, by unfold fX7_feed; rw [if_neg c_1], ⟨by rw [ht]; exact hP.sub [] rfl, hD.sub [] (by decide) rfl⟩⟩, hS.F ht⟩) hS.2.2 dX7_feed_82
  · refine lv_aload_n hx hb dX7_feed_12 rfl (lv_at hl 0 rfl) ?_
    refine lv_bipush (v := (-2)) hx hb dX7_feed_13 (by decide) ?_
    refine oh_mV (As := [.int (-2)]) (rest := []) (wr := [(a0_tape, .inl (E 0, 250, .inl (fun _ => 0)))]) ⟨hx, hb, hml, hown, htg⟩ (c_X7_refuse l D E G s.heap.size a0 (-2) a0_shelf a0_rowSort a0_rowSize a0_rows a0_moved a0_shown a0_tape a0_refused a0_road a0_bridge a0_waggon a0_part a0_asked a0_under a0_far (show vp_in (-(-2)) 8 by unfold vp_in; decide)) (cwV 1 htg (oh_gV q_1071 q_1073 q_29 q_73 q_1074) rfl rfl rfl pdVX7_refuse ⟨Nat.le_of_ble_eq_true rfl, Nat.le_of_ble_eq_true rfl⟩) hK hP hD hG hS hA [0, 2] [1] rfl rfl (by decide) (by decide) (by decide) (va_recv hK hP (ci := 7) (q0 := 0) rfl rfl) rfl hl.1 rfl (Nat.le_of_ble_eq_true rfl) dX7_feed_15 ⟨Nat.le_of_ble_eq_true rfl, Nat.le_of_ble_eq_true rfl⟩ (fun r_1 u H locs hw hP hD hS => ?_)
    subst hw
    have hP : va_P D vwCl [(a0_tape, .inl (E 0, 250, .inl (fun _ => 0))), (a0, .inr (7, [.ref a0_shelf, .ref a0_rowSort, .ref a0_rowSize, .ref a0_rows, .ref a0_moved, .ref a0_shown, .ref a0_tape, .int 0, .ref a0_refused, .int 0, .ref a0_road, .int 0, .ref a0_bridge, .int 0, .ref a0_waggon, .int 0, .ref a0_part, .ref a0_asked, .ref a0_under, .int 0, .null, .int 0, .int 0, .int 0, .long 0, .int 0, .int 0, .ref a0_far, .int 0]))] H := hP
    have hD : va_D A [(a0_tape, .inl (E 0, 250, .inl (fun _ => 0))), (a0, .inr (7, [.ref a0_shelf, .ref a0_rowSort, .ref a0_rowSize, .ref a0_rows, .ref a0_moved, .ref a0_shown, .ref a0_tape, .int 0, .ref a0_refused, .int 0, .ref a0_road, .int 0, .ref a0_bridge, .int 0, .ref a0_waggon, .int 0, .ref a0_part, .ref a0_asked, .ref a0_under, .int 0, .null, .int 0, .int 0, .int 0, .long 0, .int 0, .int 0, .ref a0_far, .int 0]))] := hD
    refine W.widen (k := 0) (n := 0) (Nat.le_refl _) (Nat.le_refl _) ?_
    refine W.widen (k := 0) (n := 0) (Nat.le_of_ble_eq_true rfl) (Nat.le_of_ble_eq_true rfl) ?_
    exact W.iret (v := (-2)) hx hb hr (fun t ht hW => ⟨⟨(-2), (), rfl, by unfold fX7_feed; rw [if_pos c_1], ⟨by rw [ht]; exact hP.sub [] rfl, hD.sub [] (by decide) rfl⟩⟩, hS.F ht⟩) hS.2.2 dX7_feed_18
def fX7_status (v_a : Int32) : Int32 :=
  if v_a = 0 then 0 else if v_a = 1 then 0 else if v_a = 2 then 0 else if v_a = 3 then 0 else if v_a = 4 then 0 else if v_a = 5 then 0 else if v_a = 6 then 0 else if v_a = 7 then 0 else if (fX7_in (Int32.toInt64 v_a) 12 16) = 0 then (-1) else 0
set_option maxHeartbeats 4000000 in
set_option maxRecDepth 100000 in
theorem c_X7_status (l : Launch) (D : va_G) (E : Nat → ClassId) (G : Nat → Nat) (a0 : Nat) (v_a : Int32) (a0_shelf : Nat) (a0_rowSort : Nat) (a0_rowSize : Nat) (a0_rows : Nat) (a0_moved : Nat) (a0_shown : Nat) (a0_tape : Nat) (a0_refused : Nat) (a0_road : Nat) (a0_bridge : Nat) (a0_waggon : Nat) (a0_part : Nat) (a0_asked : Nat) (a0_under : Nat) (a0_far : Nat) : Met l yX7_status (oh_w yX7_status cX7_status 4 (some .int)) ({ frames := 1, cells := 0, slots := 0, locals := 25 }) (oh_Pp D E G [.ref a0, .int v_a] [(a0, .inr (7, [.ref a0_shelf, .ref a0_rowSort, .ref a0_rowSize, .ref a0_rows, .ref a0_moved, .ref a0_shown, .ref a0_tape, .int 0, .ref a0_refused, .int 0, .ref a0_road, .int 0, .ref a0_bridge, .int 0, .ref a0_waggon, .int 0, .ref a0_part, .ref a0_asked, .ref a0_under, .int 0, .null, .int 0, .int 0, .int 0, .long 0, .int 0, .int 0, .ref a0_far, .int 0])), (a0_shelf, .inl (E 0, 8, .inl (fun _ => 0))), (a0_refused, .inl (E 0, 8, .inl (fun _ => 0)))]) (vp_Si (fun r => r = fX7_status v_a)) 0 0 (fun _ => False) := by
  refine Met.ofW (cc := cX7_status) (maxL := 4) (ret := (some .int)) (by decide) rfl ?_
  intro p e s m args below meth c s₁ B hml hv
  obtain ⟨rfl, hP, hK, hG⟩ := hv
  have hx := B.exec
  have hb := B.bytes
  have hr := B.returns
  have hts := atoms_spec (ws := (oh_w yX7_status cX7_status 4 (some .int))) B.pre
  have htg : ∀ w ∈ oh_t, w.before _ s = true := fun w h => hts w (List.mem_cons_of_mem _ h)
  have hown : s.vm.findClass RX7 = some m.cls := findClass_of_methodNamed B.named
  have hlocks := B.notSynchronized
  have hS : va_S (fun _ => False) s.heap s.heap [] := va_S.rf
  have hl := lv_entry ([.ref a0, .int v_a]) (n := 4) (Nat.le_of_ble_eq_true rfl)
  rw [lg_entry_eq]
  generalize (lg_sl ([.ref a0, .int v_a]) ++ List.replicate (4 - (lg_sl ([.ref a0, .int v_a])).length) Slot.unset).toArray = ls at hl ⊢
  have hl : lv_has ls 4 [(0, .ref a0), (1, .int v_a)] := hl
  refine lv_iconst (v := 0) hx hb dX7_status_0 (by decide) ?_
  refine lv_istore_n (lv' := [(2, .int 0), (0, .ref a0), (1, .int v_a)]) hx hb dX7_status_1 rfl hl (by decide) rfl (fun ls hl => ?_)
  refine lv_iload_n hx hb dX7_status_2 rfl (lv_at hl 2 rfl) ?_
  by_cases c_1 : v_a = 0
  · refine lv_tableIn (off := 45) (tgt := 48) hx hb dX7_status_3 (by rw [c_1]; decide) (by rw [c_1]; decide) (by rw [c_1]; decide) (by decide) ?_
    refine lv_aload_n hx hb dX7_status_48 rfl (lv_at hl 1 rfl) ?_
    refine va_get (D := D) (ci := 7) (v := .int 0) (C := RX7) (T := TX7) (N := 29) hx hb htg ig_7 hown hK hP 0 rfl rfl 9 (by decide) (htg _ q_982) (fun _ h9 => h9) rfl dX7_status_49 ?_
    exact W.iret (v := 0) hx hb hr (fun t ht hW => ⟨0, rfl, by unfold fX7_status; rw [if_pos c_1], ht⟩) (fun q h => by cases h) dX7_status_52
  · by_cases c_2 : v_a = 1
    · refine lv_tableIn (off := 50) (tgt := 53) hx hb dX7_status_3 (by rw [c_2]; decide) (by rw [c_2]; decide) (by rw [c_2]; decide) (by decide) ?_
      refine lv_aload_n hx hb dX7_status_53 rfl (lv_at hl 1 rfl) ?_
      refine va_get (D := D) (ci := 7) (v := .int 0) (C := RX7) (T := TX7) (N := 29) hx hb htg ig_7 hown hK hP 0 rfl rfl 11 (by decide) (htg _ q_984) (fun _ h9 => h9) rfl dX7_status_54 ?_
      exact W.iret (v := 0) hx hb hr (fun t ht hW => ⟨0, rfl, by unfold fX7_status; rw [if_neg c_1, if_pos c_2], ht⟩) (fun q h => by cases h) dX7_status_57
    · by_cases c_3 : v_a = 2
      · refine lv_tableIn (off := 55) (tgt := 58) hx hb dX7_status_3 (by rw [c_3]; decide) (by rw [c_3]; decide) (by rw [c_3]; decide) (by decide) ?_
        refine lv_aload_n hx hb dX7_status_58 rfl (lv_at hl 1 rfl) ?_
        refine va_get (D := D) (ci := 7) (v := .int 0) (C := RX7) (T := TX7) (N := 29) hx hb htg ig_7 hown hK hP 0 rfl rfl 13 (by decide) (htg _ q_986) (fun _ h9 => h9) rfl dX7_status_59 ?_
        exact W.iret (v := 0) hx hb hr (fun t ht hW => ⟨0, rfl, by unfold fX7_status; rw [if_neg c_1, if_neg c_2, if_pos c_3], ht⟩) (fun q h => by cases h) dX7_status_62
      · by_cases c_4 : v_a = 3
        · refine lv_tableIn (off := 60) (tgt := 63) hx hb dX7_status_3 (by rw [c_4]; decide) (by rw [c_4]; decide) (by rw [c_4]; decide) (by decide) ?_
          refine lv_aload_n hx hb dX7_status_63 rfl (lv_at hl 1 rfl) ?_
          refine va_get (D := D) (ci := 7) (v := .int 0) (C := RX7) (T := TX7) (N := 29) hx hb htg ig_7 hown hK hP 0 rfl rfl 15 (by decide) (htg _ q_988) (fun _ h9 => h9) rfl dX7_status_64 ?_
          exact W.iret (v := 0) hx hb hr (fun t ht hW => ⟨0, rfl, by unfold fX7_status; rw [if_neg c_1, if_neg c_2, if_neg c_3, if_pos c_4], ht⟩) (fun q h => by cases h) dX7_status_67
        · by_cases c_5 : v_a = 4
          · refine lv_tableIn (off := 65) (tgt := 68) hx hb dX7_status_3 (by rw [c_5]; decide) (by rw [c_5]; decide) (by rw [c_5]; decide) (by decide) ?_
            refine lv_aload_n hx hb dX7_status_68 rfl (lv_at hl 1 rfl) ?_
            refine va_get (D := D) (ci := 7) (v := .int 0) (C := RX7) (T := TX7) (N := 29) hx hb htg ig_7 hown hK hP 0 rfl rfl 7 (by decide) (htg _ q_980) (fun _ h9 => h9) rfl dX7_status_69 ?_
            exact W.iret (v := 0) hx hb hr (fun t ht hW => ⟨0, rfl, by unfold fX7_status; rw [if_neg c_1, if_neg c_2, if_neg c_3, if_neg c_4, if_pos c_5], ht⟩) (fun q h => by cases h) dX7_status_72
          · by_cases c_6 : v_a = 5
            · refine lv_tableIn (off := 70) (tgt := 73) hx hb dX7_status_3 (by rw [c_6]; decide) (by rw [c_6]; decide) (by rw [c_6]; decide) (by decide) ?_
              refine lv_iconst (v := 0) hx hb dX7_status_73 (by decide) ?_
              refine lv_istore_n (lv' := [(3, .int 0), (2, .int 0), (0, .ref a0), (1, .int v_a)]) hx hb dX7_status_74 rfl hl (by decide) rfl (fun ls hl => ?_)
              refine lv_iload_n hx hb dX7_status_75 rfl (lv_at hl 0 rfl) ?_
              refine lv_bipush (v := 8) hx hb dX7_status_76 (by decide) ?_
              refine lv_icmp_ge (tgt := 104) hx hb dX7_status_78 (by decide) (fun c => absurd c (show ¬ (8 ≤ (0 : Int32)) from by decide)) (fun _ => ?_)
              refine lv_iload_n hx hb dX7_status_81 rfl (lv_at hl 1 rfl) ?_
              refine lv_aload_n hx hb dX7_status_82 rfl (lv_at hl 2 rfl) ?_
              refine va_get (D := D) (ci := 7) (v := .ref a0_shelf) (C := RX7) (T := TX7) (N := 29) hx hb htg ig_7 hown hK hP 0 rfl rfl 0 (by decide) (htg _ q_973) (fun _ h9 => h9) rfl dX7_status_83 ?_
              refine lv_iload_n hx hb dX7_status_86 rfl (lv_at hl 0 rfl) ?_
              refine va_iald hx hb hK hP 1 0 rfl rfl (show vp_in 0 8 by unfold vp_in; decide) dX7_status_87 ?_
              refine oh_nrm (v := 0) (by decide) ?_
              refine lv_if_eq (tgt := 95) hx hb dX7_status_88 (by decide) (fun _ => ?_) (fun c => absurd (show (0 : Int32) = 0 from by decide) c)
              refine lv_iconst (v := 0) hx hb dX7_status_95 (by decide) ?_
              refine lv_iadd hx hb dX7_status_96 ?_
              refine oh_nrm (v := 0) (by decide) ?_
              refine lv_istore_n (lv' := [(2, .int 0), (3, .int 0), (0, .ref a0), (1, .int v_a)]) hx hb dX7_status_97 rfl hl (by decide) rfl (fun ls hl => ?_)
              refine lv_iinc (v := 1) (lv' := [(3, .int 1), (2, .int 0), (0, .ref a0), (1, .int v_a)]) hx hb dX7_status_98 hl (k := 1) rfl (by decide) (by decide) rfl (fun ls hl => ?_)
              refine lv_goto (tgt := 75) hx hb dX7_status_101 (by decide) ?_
              refine lv_iload_n hx hb dX7_status_75 rfl (lv_at hl 0 rfl) ?_
              refine lv_bipush (v := 8) hx hb dX7_status_76 (by decide) ?_
              refine lv_icmp_ge (tgt := 104) hx hb dX7_status_78 (by decide) (fun c => absurd c (show ¬ (8 ≤ (1 : Int32)) from by decide)) (fun _ => ?_)
              refine lv_iload_n hx hb dX7_status_81 rfl (lv_at hl 1 rfl) ?_
              refine lv_aload_n hx hb dX7_status_82 rfl (lv_at hl 2 rfl) ?_
              refine va_get (D := D) (ci := 7) (v := .ref a0_shelf) (C := RX7) (T := TX7) (N := 29) hx hb htg ig_7 hown hK hP 0 rfl rfl 0 (by decide) (htg _ q_973) (fun _ h9 => h9) rfl dX7_status_83 ?_
              refine lv_iload_n hx hb dX7_status_86 rfl (lv_at hl 0 rfl) ?_
              refine va_iald hx hb hK hP 1 0 rfl rfl (show vp_in 1 8 by unfold vp_in; decide) dX7_status_87 ?_
              refine oh_nrm (v := 0) (by decide) ?_
              refine lv_if_eq (tgt := 95) hx hb dX7_status_88 (by decide) (fun _ => ?_) (fun c => absurd (show (0 : Int32) = 0 from by decide) c)
              refine lv_iconst (v := 0) hx hb dX7_status_95 (by decide) ?_
              refine lv_iadd hx hb dX7_status_96 ?_
              refine oh_nrm (v := 0) (by decide) ?_
              refine lv_istore_n (lv' := [(2, .int 0), (3, .int 1), (0, .ref a0), (1, .int v_a)]) hx hb dX7_status_97 rfl hl (by decide) rfl (fun ls hl => ?_)
              refine lv_iinc (v := 2) (lv' := [(3, .int 2), (2, .int 0), (0, .ref a0), (1, .int v_a)]) hx hb dX7_status_98 hl (k := 1) rfl (by decide) (by decide) rfl (fun ls hl => ?_)
              refine lv_goto (tgt := 75) hx hb dX7_status_101 (by decide) ?_
              refine lv_iload_n hx hb dX7_status_75 rfl (lv_at hl 0 rfl) ?_
              refine lv_bipush (v := 8) hx hb dX7_status_76 (by decide) ?_
              refine lv_icmp_ge (tgt := 104) hx hb dX7_status_78 (by decide) (fun c => absurd c (show ¬ (8 ≤ (2 : Int32)) from by decide)) (fun _ => ?_)
              refine lv_iload_n hx hb dX7_status_81 rfl (lv_at hl 1 rfl) ?_
              refine lv_aload_n hx hb dX7_status_82 rfl (lv_at hl 2 rfl) ?_
              refine va_get (D := D) (ci := 7) (v := .ref a0_shelf) (C := RX7) (T := TX7) (N := 29) hx hb htg ig_7 hown hK hP 0 rfl rfl 0 (by decide) (htg _ q_973) (fun _ h9 => h9) rfl dX7_status_83 ?_
              refine lv_iload_n hx hb dX7_status_86 rfl (lv_at hl 0 rfl) ?_
              refine va_iald hx hb hK hP 1 0 rfl rfl (show vp_in 2 8 by unfold vp_in; decide) dX7_status_87 ?_
              refine oh_nrm (v := 0) (by decide) ?_
              refine lv_if_eq (tgt := 95) hx hb dX7_status_88 (by decide) (fun _ => ?_) (fun c => absurd (show (0 : Int32) = 0 from by decide) c)
              refine lv_iconst (v := 0) hx hb dX7_status_95 (by decide) ?_
              refine lv_iadd hx hb dX7_status_96 ?_
              refine oh_nrm (v := 0) (by decide) ?_
              refine lv_istore_n (lv' := [(2, .int 0), (3, .int 2), (0, .ref a0), (1, .int v_a)]) hx hb dX7_status_97 rfl hl (by decide) rfl (fun ls hl => ?_)
              refine lv_iinc (v := 3) (lv' := [(3, .int 3), (2, .int 0), (0, .ref a0), (1, .int v_a)]) hx hb dX7_status_98 hl (k := 1) rfl (by decide) (by decide) rfl (fun ls hl => ?_)
              refine lv_goto (tgt := 75) hx hb dX7_status_101 (by decide) ?_
              refine lv_iload_n hx hb dX7_status_75 rfl (lv_at hl 0 rfl) ?_
              refine lv_bipush (v := 8) hx hb dX7_status_76 (by decide) ?_
              refine lv_icmp_ge (tgt := 104) hx hb dX7_status_78 (by decide) (fun c => absurd c (show ¬ (8 ≤ (3 : Int32)) from by decide)) (fun _ => ?_)
              refine lv_iload_n hx hb dX7_status_81 rfl (lv_at hl 1 rfl) ?_
              refine lv_aload_n hx hb dX7_status_82 rfl (lv_at hl 2 rfl) ?_
              refine va_get (D := D) (ci := 7) (v := .ref a0_shelf) (C := RX7) (T := TX7) (N := 29) hx hb htg ig_7 hown hK hP 0 rfl rfl 0 (by decide) (htg _ q_973) (fun _ h9 => h9) rfl dX7_status_83 ?_
              refine lv_iload_n hx hb dX7_status_86 rfl (lv_at hl 0 rfl) ?_
              refine va_iald hx hb hK hP 1 0 rfl rfl (show vp_in 3 8 by unfold vp_in; decide) dX7_status_87 ?_
              refine oh_nrm (v := 0) (by decide) ?_
              refine lv_if_eq (tgt := 95) hx hb dX7_status_88 (by decide) (fun _ => ?_) (fun c => absurd (show (0 : Int32) = 0 from by decide) c)
              refine lv_iconst (v := 0) hx hb dX7_status_95 (by decide) ?_
              refine lv_iadd hx hb dX7_status_96 ?_
              refine oh_nrm (v := 0) (by decide) ?_
              refine lv_istore_n (lv' := [(2, .int 0), (3, .int 3), (0, .ref a0), (1, .int v_a)]) hx hb dX7_status_97 rfl hl (by decide) rfl (fun ls hl => ?_)
              refine lv_iinc (v := 4) (lv' := [(3, .int 4), (2, .int 0), (0, .ref a0), (1, .int v_a)]) hx hb dX7_status_98 hl (k := 1) rfl (by decide) (by decide) rfl (fun ls hl => ?_)
              refine lv_goto (tgt := 75) hx hb dX7_status_101 (by decide) ?_
              refine lv_iload_n hx hb dX7_status_75 rfl (lv_at hl 0 rfl) ?_
              refine lv_bipush (v := 8) hx hb dX7_status_76 (by decide) ?_
              refine lv_icmp_ge (tgt := 104) hx hb dX7_status_78 (by decide) (fun c => absurd c (show ¬ (8 ≤ (4 : Int32)) from by decide)) (fun _ => ?_)
              refine lv_iload_n hx hb dX7_status_81 rfl (lv_at hl 1 rfl) ?_
              refine lv_aload_n hx hb dX7_status_82 rfl (lv_at hl 2 rfl) ?_
              refine va_get (D := D) (ci := 7) (v := .ref a0_shelf) (C := RX7) (T := TX7) (N := 29) hx hb htg ig_7 hown hK hP 0 rfl rfl 0 (by decide) (htg _ q_973) (fun _ h9 => h9) rfl dX7_status_83 ?_
              refine lv_iload_n hx hb dX7_status_86 rfl (lv_at hl 0 rfl) ?_
              refine va_iald hx hb hK hP 1 0 rfl rfl (show vp_in 4 8 by unfold vp_in; decide) dX7_status_87 ?_
              refine oh_nrm (v := 0) (by decide) ?_
              refine lv_if_eq (tgt := 95) hx hb dX7_status_88 (by decide) (fun _ => ?_) (fun c => absurd (show (0 : Int32) = 0 from by decide) c)
              refine lv_iconst (v := 0) hx hb dX7_status_95 (by decide) ?_
              refine lv_iadd hx hb dX7_status_96 ?_
              refine oh_nrm (v := 0) (by decide) ?_
              refine lv_istore_n (lv' := [(2, .int 0), (3, .int 4), (0, .ref a0), (1, .int v_a)]) hx hb dX7_status_97 rfl hl (by decide) rfl (fun ls hl => ?_)
              refine lv_iinc (v := 5) (lv' := [(3, .int 5), (2, .int 0), (0, .ref a0), (1, .int v_a)]) hx hb dX7_status_98 hl (k := 1) rfl (by decide) (by decide) rfl (fun ls hl => ?_)
              refine lv_goto (tgt := 75) hx hb dX7_status_101 (by decide) ?_
              refine lv_iload_n hx hb dX7_status_75 rfl (lv_at hl 0 rfl) ?_
              refine lv_bipush (v := 8) hx hb dX7_status_76 (by decide) ?_
              refine lv_icmp_ge (tgt := 104) hx hb dX7_status_78 (by decide) (fun c => absurd c (show ¬ (8 ≤ (5 : Int32)) from by decide)) (fun _ => ?_)
              refine lv_iload_n hx hb dX7_status_81 rfl (lv_at hl 1 rfl) ?_
              refine lv_aload_n hx hb dX7_status_82 rfl (lv_at hl 2 rfl) ?_
              refine va_get (D := D) (ci := 7) (v := .ref a0_shelf) (C := RX7) (T := TX7) (N := 29) hx hb htg ig_7 hown hK hP 0 rfl rfl 0 (by decide) (htg _ q_973) (fun _ h9 => h9) rfl dX7_status_83 ?_
              refine lv_iload_n hx hb dX7_status_86 rfl (lv_at hl 0 rfl) ?_
              refine va_iald hx hb hK hP 1 0 rfl rfl (show vp_in 5 8 by unfold vp_in; decide) dX7_status_87 ?_
              refine oh_nrm (v := 0) (by decide) ?_
              refine lv_if_eq (tgt := 95) hx hb dX7_status_88 (by decide) (fun _ => ?_) (fun c => absurd (show (0 : Int32) = 0 from by decide) c)
              refine lv_iconst (v := 0) hx hb dX7_status_95 (by decide) ?_
              refine lv_iadd hx hb dX7_status_96 ?_
              refine oh_nrm (v := 0) (by decide) ?_
              refine lv_istore_n (lv' := [(2, .int 0), (3, .int 5), (0, .ref a0), (1, .int v_a)]) hx hb dX7_status_97 rfl hl (by decide) rfl (fun ls hl => ?_)
              refine lv_iinc (v := 6) (lv' := [(3, .int 6), (2, .int 0), (0, .ref a0), (1, .int v_a)]) hx hb dX7_status_98 hl (k := 1) rfl (by decide) (by decide) rfl (fun ls hl => ?_)
              refine lv_goto (tgt := 75) hx hb dX7_status_101 (by decide) ?_
              refine lv_iload_n hx hb dX7_status_75 rfl (lv_at hl 0 rfl) ?_
              refine lv_bipush (v := 8) hx hb dX7_status_76 (by decide) ?_
              refine lv_icmp_ge (tgt := 104) hx hb dX7_status_78 (by decide) (fun c => absurd c (show ¬ (8 ≤ (6 : Int32)) from by decide)) (fun _ => ?_)
              refine lv_iload_n hx hb dX7_status_81 rfl (lv_at hl 1 rfl) ?_
              refine lv_aload_n hx hb dX7_status_82 rfl (lv_at hl 2 rfl) ?_
              refine va_get (D := D) (ci := 7) (v := .ref a0_shelf) (C := RX7) (T := TX7) (N := 29) hx hb htg ig_7 hown hK hP 0 rfl rfl 0 (by decide) (htg _ q_973) (fun _ h9 => h9) rfl dX7_status_83 ?_
              refine lv_iload_n hx hb dX7_status_86 rfl (lv_at hl 0 rfl) ?_
              refine va_iald hx hb hK hP 1 0 rfl rfl (show vp_in 6 8 by unfold vp_in; decide) dX7_status_87 ?_
              refine oh_nrm (v := 0) (by decide) ?_
              refine lv_if_eq (tgt := 95) hx hb dX7_status_88 (by decide) (fun _ => ?_) (fun c => absurd (show (0 : Int32) = 0 from by decide) c)
              refine lv_iconst (v := 0) hx hb dX7_status_95 (by decide) ?_
              refine lv_iadd hx hb dX7_status_96 ?_
              refine oh_nrm (v := 0) (by decide) ?_
              refine lv_istore_n (lv' := [(2, .int 0), (3, .int 6), (0, .ref a0), (1, .int v_a)]) hx hb dX7_status_97 rfl hl (by decide) rfl (fun ls hl => ?_)
              refine lv_iinc (v := 7) (lv' := [(3, .int 7), (2, .int 0), (0, .ref a0), (1, .int v_a)]) hx hb dX7_status_98 hl (k := 1) rfl (by decide) (by decide) rfl (fun ls hl => ?_)
              refine lv_goto (tgt := 75) hx hb dX7_status_101 (by decide) ?_
              refine lv_iload_n hx hb dX7_status_75 rfl (lv_at hl 0 rfl) ?_
              refine lv_bipush (v := 8) hx hb dX7_status_76 (by decide) ?_
              refine lv_icmp_ge (tgt := 104) hx hb dX7_status_78 (by decide) (fun c => absurd c (show ¬ (8 ≤ (7 : Int32)) from by decide)) (fun _ => ?_)
              refine lv_iload_n hx hb dX7_status_81 rfl (lv_at hl 1 rfl) ?_
              refine lv_aload_n hx hb dX7_status_82 rfl (lv_at hl 2 rfl) ?_
              refine va_get (D := D) (ci := 7) (v := .ref a0_shelf) (C := RX7) (T := TX7) (N := 29) hx hb htg ig_7 hown hK hP 0 rfl rfl 0 (by decide) (htg _ q_973) (fun _ h9 => h9) rfl dX7_status_83 ?_
              refine lv_iload_n hx hb dX7_status_86 rfl (lv_at hl 0 rfl) ?_
              refine va_iald hx hb hK hP 1 0 rfl rfl (show vp_in 7 8 by unfold vp_in; decide) dX7_status_87 ?_
              refine oh_nrm (v := 0) (by decide) ?_
              refine lv_if_eq (tgt := 95) hx hb dX7_status_88 (by decide) (fun _ => ?_) (fun c => absurd (show (0 : Int32) = 0 from by decide) c)
              refine lv_iconst (v := 0) hx hb dX7_status_95 (by decide) ?_
              refine lv_iadd hx hb dX7_status_96 ?_
              refine oh_nrm (v := 0) (by decide) ?_
              refine lv_istore_n (lv' := [(2, .int 0), (3, .int 7), (0, .ref a0), (1, .int v_a)]) hx hb dX7_status_97 rfl hl (by decide) rfl (fun ls hl => ?_)
              refine lv_iinc (v := 8) (lv' := [(3, .int 8), (2, .int 0), (0, .ref a0), (1, .int v_a)]) hx hb dX7_status_98 hl (k := 1) rfl (by decide) (by decide) rfl (fun ls hl => ?_)
              refine lv_goto (tgt := 75) hx hb dX7_status_101 (by decide) ?_
              refine lv_iload_n hx hb dX7_status_75 rfl (lv_at hl 0 rfl) ?_
              refine lv_bipush (v := 8) hx hb dX7_status_76 (by decide) ?_
              refine lv_icmp_ge (tgt := 104) hx hb dX7_status_78 (by decide) (fun _ => ?_) (fun c => absurd (show 8 ≤ (8 : Int32) from by decide) c)
              refine lv_iload_n hx hb dX7_status_104 rfl (lv_at hl 1 rfl) ?_
              exact W.iret (v := 0) hx hb hr (fun t ht hW => ⟨0, rfl, by unfold fX7_status; rw [if_neg c_1, if_neg c_2, if_neg c_3, if_neg c_4, if_neg c_5, if_pos c_6], ht⟩) (fun q h => by cases h) dX7_status_105
            · by_cases c_7 : v_a = 6
              · refine lv_tableIn (off := 103) (tgt := 106) hx hb dX7_status_3 (by rw [c_7]; decide) (by rw [c_7]; decide) (by rw [c_7]; decide) (by decide) ?_
                refine lv_iconst (v := 0) hx hb dX7_status_106 (by decide) ?_
                refine lv_istore_n (lv' := [(3, .int 0), (2, .int 0), (0, .ref a0), (1, .int v_a)]) hx hb dX7_status_107 rfl hl (by decide) rfl (fun ls hl => ?_)
                refine lv_iload_n hx hb dX7_status_108 rfl (lv_at hl 0 rfl) ?_
                refine lv_aload_n hx hb dX7_status_109 rfl (lv_at hl 2 rfl) ?_
                refine va_get (D := D) (ci := 7) (v := .int 0) (C := RX7) (T := TX7) (N := 29) hx hb htg ig_7 hown hK hP 0 rfl rfl 11 (by decide) (htg _ q_984) (fun _ h9 => h9) rfl dX7_status_110 ?_
                refine lv_icmp_ge (tgt := 135) hx hb dX7_status_113 (by decide) (fun _ => ?_) (fun c => absurd (show 0 ≤ (0 : Int32) from by decide) c)
                refine lv_iload_n hx hb dX7_status_135 rfl (lv_at hl 1 rfl) ?_
                exact W.iret (v := 0) hx hb hr (fun t ht hW => ⟨0, rfl, by unfold fX7_status; rw [if_neg c_1, if_neg c_2, if_neg c_3, if_neg c_4, if_neg c_5, if_neg c_6, if_pos c_7], ht⟩) (fun q h => by cases h) dX7_status_136
              · by_cases c_8 : v_a = 7
                · refine lv_tableIn (off := 103) (tgt := 106) hx hb dX7_status_3 (by rw [c_8]; decide) (by rw [c_8]; decide) (by rw [c_8]; decide) (by decide) ?_
                  refine lv_iconst (v := 0) hx hb dX7_status_106 (by decide) ?_
                  refine lv_istore_n (lv' := [(3, .int 0), (2, .int 0), (0, .ref a0), (1, .int v_a)]) hx hb dX7_status_107 rfl hl (by decide) rfl (fun ls hl => ?_)
                  refine lv_iload_n hx hb dX7_status_108 rfl (lv_at hl 0 rfl) ?_
                  refine lv_aload_n hx hb dX7_status_109 rfl (lv_at hl 2 rfl) ?_
                  refine va_get (D := D) (ci := 7) (v := .int 0) (C := RX7) (T := TX7) (N := 29) hx hb htg ig_7 hown hK hP 0 rfl rfl 11 (by decide) (htg _ q_984) (fun _ h9 => h9) rfl dX7_status_110 ?_
                  refine lv_icmp_ge (tgt := 135) hx hb dX7_status_113 (by decide) (fun _ => ?_) (fun c => absurd (show 0 ≤ (0 : Int32) from by decide) c)
                  refine lv_iload_n hx hb dX7_status_135 rfl (lv_at hl 1 rfl) ?_
                  exact W.iret (v := 0) hx hb hr (fun t ht hW => ⟨0, rfl, by unfold fX7_status; rw [if_neg c_1, if_neg c_2, if_neg c_3, if_neg c_4, if_neg c_5, if_neg c_6, if_neg c_7, if_pos c_8], ht⟩) (fun q h => by cases h) dX7_status_136
                · refine lv_tableOut (tgt := 137) hx hb dX7_status_3 (by have h9 := And.intro (oh_ne c_1 (k := 0) (by decide)) (And.intro (oh_ne c_2 (k := 1) (by decide)) (And.intro (oh_ne c_3 (k := 2) (by decide)) (And.intro (oh_ne c_4 (k := 3) (by decide)) (And.intro (oh_ne c_5 (k := 4) (by decide)) (And.intro (oh_ne c_6 (k := 5) (by decide)) (And.intro (oh_ne c_7 (k := 6) (by decide)) (And.intro (oh_ne c_8 (k := 7) (by decide)) trivial))))))); omega) (by decide) ?_
                  refine lv_iload_n hx hb dX7_status_137 rfl (lv_at hl 2 rfl) ?_
                  refine lv_i2l (v := Int32.toInt64 v_a) hx hb dX7_status_138 (by rfl) ?_
                  refine lv_ldc2 (v := 12) hx hb hown (htg _ q_1163) dX7_status_139 ?_
                  refine lv_ldc2 (v := 16) hx hb hown (htg _ q_1445) dX7_status_142 ?_
                  refine oh_pS (As := [.long (Int32.toInt64 v_a), .long 12, .long 16]) (rest := []) (v := fX7_in (Int32.toInt64 v_a) 12 16) ⟨hx, hb, hml, hown, htg⟩ (c_X7_in l D E G (Int32.toInt64 v_a) 12 16) (va_cwS 3 htg (oh_gS q_1066 q_1067 q_73 q_1068) rfl rfl rfl pdX7_in ⟨Nat.le_of_ble_eq_true rfl, Nat.le_of_ble_eq_true rfl⟩) hK (hP.sub (ws' := []) [] rfl) hG hS rfl hl.1 rfl (Nat.le_of_ble_eq_true rfl) dX7_status_145 ⟨Nat.le_of_ble_eq_true rfl, Nat.le_of_ble_eq_true rfl⟩ ?_
                  refine lv_if_eq (tgt := 163) hx hb dX7_status_148 (by decide) (fun (c_9 : (fX7_in (Int32.toInt64 v_a) 12 16) = 0) => ?_) (fun (c_9 : ¬ ((fX7_in (Int32.toInt64 v_a) 12 16) = 0)) => ?_)
                  · refine lv_iconst (v := (-1)) hx hb dX7_status_163 (by decide) ?_
                    exact W.iret (v := (-1)) hx hb hr (fun t ht hW => ⟨(-1), rfl, by unfold fX7_status; rw [if_neg c_1, if_neg c_2, if_neg c_3, if_neg c_4, if_neg c_5, if_neg c_6, if_neg c_7, if_neg c_8, if_pos c_9], ht⟩) (fun q h => by cases h) dX7_status_164
                  · refine lv_aload_n hx hb dX7_status_151 rfl (lv_at hl 1 rfl) ?_
                    refine va_get (D := D) (ci := 7) (v := .ref a0_refused) (C := RX7) (T := TX7) (N := 29) hx hb htg ig_7 hown hK hP 0 rfl rfl 8 (by decide) (htg _ q_981) (fun _ h9 => h9) rfl dX7_status_152 ?_
                    refine lv_iload_n hx hb dX7_status_155 rfl (lv_at hl 2 rfl) ?_
                    refine lv_bipush (v := 10) hx hb dX7_status_156 (by decide) ?_
                    refine lv_isub hx hb dX7_status_158 ?_
                    refine va_iald hx hb hK hP 2 0 rfl rfl (oh_m12 c_9) dX7_status_159 ?_
                    refine oh_nrm (v := 0) (by rfl) ?_
                    refine lv_goto (tgt := 164) hx hb dX7_status_160 (by decide) ?_
                    exact W.iret (v := 0) hx hb hr (fun t ht hW => ⟨0, rfl, by unfold fX7_status; rw [if_neg c_1, if_neg c_2, if_neg c_3, if_neg c_4, if_neg c_5, if_neg c_6, if_neg c_7, if_neg c_8, if_neg c_9], ht⟩) (fun q h => by cases h) dX7_status_164
