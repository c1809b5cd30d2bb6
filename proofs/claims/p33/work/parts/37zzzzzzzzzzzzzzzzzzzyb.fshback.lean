set_option maxHeartbeats 4000000 in
set_option maxRecDepth 100000 in
theorem e4_X6_back (l : Launch) (D : va_G) (E : Nat → ClassId) (G : Nat → Nat) (sz : Nat) (a : Nat → Nat) (C : Nat → va_E) (hT : TyX a E C) : Met l yX6_back (oh_w yX6_back cX6_back 1 (some .int)) ({ frames := 2, cells := 0, slots := 0, locals := 44 }) (oh_Pm D E G [.ref (a 0)] (oh_W 35 a C) sz) (va_Qi (fun r (u : Nat → va_E) => TyX a E u ∧ fr [(1, 2), (7, 8), (10, 17), (29, 31)] [] C u ∧ (r = (if gi (C 0) 2 = 0 then (-5) else 1 : Int32)) ∧ ((r = 1 → ∀ A : LA, absX 17 C A → absX 10 u A) ∧ (¬ r = 1 → ∀ k, 10 ≤ k → k ≤ 15 → u k = C k)) ∧ ((r = 1 → ∀ T : TP, absTX 2 23 C T → absTX 1 16 u T) ∧ (¬ r = 1 → ∀ T : TP, absTX 1 16 C T → absTX 1 16 u T)) ∧ ((r = 1 → ∀ A : LA, absX 17 C A → ∀ S : HZ, absHX C S → absHX u (spDr S (A 5 0 1) 8)) ∧ (¬ r = 1 → ∀ S : HZ, absHX C S → absHX u S))) (oh_B D (va_A (oh_W 35 a C) sz) (fun u => oh_W 35 a u)) (va_A (oh_W 35 a C) sz)) 0 0 (va_A (oh_W 35 a C) sz) := by
  refine Met.ofW (cc := cX6_back) (maxL := 1) (ret := (some .int)) (by decide) rfl ?_
  intro p e s m args below meth c s₁ B hml hv
  obtain ⟨rfl, hsz, hP, hK, hD0, hG⟩ := hv
  have hx := B.exec
  have hb := B.bytes
  have hr := B.returns
  have hts := atoms_spec (ws := (oh_w yX6_back cX6_back 1 (some .int))) B.pre
  have htg : ∀ w ∈ oh_t, w.before _ s = true := fun w h => hts w (List.mem_cons_of_mem _ h)
  have hown : s.vm.findClass RX6 = some m.cls := findClass_of_methodNamed B.named
  have hlocks := B.notSynchronized
  have hT0 := hT
  subst hsz
  have hD := hD0.self (sz := s.heap.size)
  generalize hAe : va_A (oh_W 35 a C) s.heap.size = A at hD hG ⊢
  have hA : ∀ q : Nat, s.heap.size ≤ q → A q := fun q h => by rw [← hAe]; exact Or.inr h
  have hS : va_S A s.heap s.heap [] := va_S.rf
  have hF : fr [(1, 2), (7, 8), (10, 17), (29, 31)] [] C C := fr_rf
  have hl := lv_entry ([.ref (a 0)]) (n := 1) (Nat.le_of_ble_eq_true rfl)
  rw [lg_entry_eq]
  generalize (lg_sl ([.ref (a 0)]) ++ List.replicate (1 - (lg_sl ([.ref (a 0)])).length) Slot.unset).toArray = ls at hl ⊢
  have hl : lv_has ls 1 [(0, .ref (a 0))] := hl
  refine oh_genQ (fun Q hQ => ?_)
  refine lv_aload_n hx hb dX6_back_0 rfl (lv_at hl 0 rfl) ?_
  refine va_get (D := D) (ci := 6) (v := .int (gi (C 0) 2)) (C := RX6) (T := TX6) (N := 9) hx hb htg ig_6 hown hK hP 0 (oh_wg (by decide) (sX_0 hT)) rfl 2 (by decide) (htg _ q_260) (fun _ h9 => h9) rfl dX6_back_1 ?_
  refine lv_if_ne (tgt := 14) hx hb dX6_back_4 (by decide) (fun (c_1 : ¬ ((gi (C 0) 2) = 0)) => ?_) (fun (c_1 : (gi (C 0) 2) = 0) => ?_)
  · refine lv_aload_n hx hb dX6_back_14 rfl (lv_at hl 0 rfl) ?_
    refine va_get (D := D) (ci := 6) (v := .ref (a 1)) (C := RX6) (T := TX6) (N := 9) hx hb htg ig_6 hown hK hP 0 (oh_wg (by decide) (sX_0 hT)) rfl 0 (by decide) (htg _ q_258) (fun _ h9 => h9) rfl dX6_back_15 ?_
    refine lv_aload_n hx hb dX6_back_18 rfl (lv_at hl 0 rfl) ?_
    refine va_get (D := D) (ci := 6) (v := .ref (a 2)) (C := RX6) (T := TX6) (N := 9) hx hb htg ig_6 hown hK hP 0 (oh_wg (by decide) (sX_0 hT)) rfl 1 (by decide) (htg _ q_259) (fun _ h9 => h9) rfl dX6_back_19 ?_
    refine tm_Vv (As := [.ref (a 2)]) (rest := []) ⟨hx, hb, hml, hown, htg⟩ (e2_X0_become_b l D E G _ a C hT) (cwV 1 htg (oh_gV q_937 q_938 q_939 q_67 q_940) rfl rfl rfl pdVX0_become ⟨Nat.le_of_ble_eq_true rfl, Nat.le_of_ble_eq_true rfl⟩) hK hP hD hG hS hA (va_recv hK hP (ci := 0) (q0 := 1) rfl (oh_wg (by decide) (sX_1 hT))) rfl hl.1 rfl (Nat.le_of_ble_eq_true rfl) dX6_back_22 ⟨Nat.le_of_ble_eq_true rfl, Nat.le_of_ble_eq_true rfl⟩ (fun C_3 H locs hq_4 hP hD hS => ?_)
    obtain ⟨hT, f_5, hq_4⟩ := hq_4
    have hF := fr_tr hF f_5 (by decide) (by decide)
    refine W.widen (k := 0) (n := 0) (Nat.le_refl _) (Nat.le_refl _) ?_
    have t_6 := hT
    refine lv_aload_n hx hb dX6_back_25 rfl (lv_at hl 0 rfl) ?_
    refine va_get (D := D) (ci := 6) (v := .ref (a 4)) (C := RX6) (T := TX6) (N := 9) hx hb htg ig_6 hown hK hP 0 (oh_wg (by decide) (sX_0 hT)) rfl 4 (by decide) (htg _ q_262) (fun _ h9 => h9) rfl dX6_back_26 ?_
    refine lv_aload_n hx hb dX6_back_29 rfl (lv_at hl 0 rfl) ?_
    refine va_get (D := D) (ci := 6) (v := .ref (a 1)) (C := RX6) (T := TX6) (N := 9) hx hb htg ig_6 hown hK hP 0 (oh_wg (by decide) (sX_0 hT)) rfl 0 (by decide) (htg _ q_258) (fun _ h9 => h9) rfl dX6_back_30 ?_
    refine va_get (D := D) (ci := 0) (v := .ref (a 10)) (C := RX0) (T := TX0) (N := 8) hx hb htg ig_0 hown hK hP 1 (oh_wg (by decide) (sX_1 hT)) rfl 0 (by decide) (htg _ q_100) (fun _ h9 => h9) rfl dX6_back_33 ?_
    refine lv_iconst (v := 1) hx hb dX6_back_36 (by decide) ?_
    refine th_iald hx hb hK hP 10 (by decide) (sX_10 hT) (rg_in (rg_c (v := 1) (lo := 1) (hi := 1) (by decide)) (by decide)) dX6_back_37 ?_
    refine tm_Vv (As := [.int (ga (C_3 10) ((1 : Int32)).toNatClampNeg)]) (rest := []) ⟨hx, hb, hml, hown, htg⟩ (e_X3_dropBridgesFrom l D E G _ a C_3 hT (ga (C_3 10) ((1 : Int32)).toNatClampNeg)) (cwV 1 htg (oh_gV q_946 q_947 q_948 q_70 q_949) rfl rfl rfl pdVX3_dropBridgesFrom ⟨Nat.le_of_ble_eq_true rfl, Nat.le_of_ble_eq_true rfl⟩) hK hP hD hG hS hA (va_recv hK hP (ci := 3) (q0 := 4) rfl (oh_wg (by decide) (sX_4 hT))) rfl hl.1 rfl (Nat.le_of_ble_eq_true rfl) dX6_back_38 ⟨Nat.le_of_ble_eq_true rfl, Nat.le_of_ble_eq_true rfl⟩ (fun C_8 H locs hq_9 hP hD hS => ?_)
    obtain ⟨hT, f_10, hq_9⟩ := hq_9
    have hF := fr_tr hF f_10 (by decide) (by decide)
    refine W.widen (k := 0) (n := 0) (Nat.le_refl _) (Nat.le_refl _) ?_
    have t_11 := hT
    refine lv_iconst (v := 1) hx hb dX6_back_41 (by decide) ?_
    rw [hQ]
    exact W.iret (v := 1) hx hb hr (fun t ht hW => ⟨⟨1, C_8, rfl, ⟨hT, hF, ⟨(if_neg c_1).symm, ⟨fun _ A hA => (absX_eq (hq_4.1 A hA) (fr_all f_10 10 15 (by decide))), fun h9 => absurd rfl h9⟩, ⟨fun _ T hT => (absTX_eq (hq_4.2 T hT) (congrArg (fun z => gi z 7) (f_10.1 1 rfl (by decide))) (f_10.1 16 rfl (by decide))), fun h9 => absurd rfl h9⟩, ⟨fun _ A hA S hS0 => by have h1 := hq_4.1 A hA; have e : ga (C_3 10) ((1 : Int32)).toNatClampNeg = A 5 0 1 := h1.1 1 (by decide); have h2 := hq_9 S (hx_fr hS0 (f_5.1 29 rfl (by decide)) (f_5.1 30 rfl (by decide))); rw [e] at h2; exact hx_fr h2 rfl rfl, fun h9 => absurd rfl h9⟩⟩⟩, ⟨by rw [ht]; exact hP, hD⟩⟩, hS.F ht⟩) hS.2.2 dX6_back_42
  · refine lv_aload_n hx hb dX6_back_7 rfl (lv_at hl 0 rfl) ?_
    refine lv_bipush (v := (-5)) hx hb dX6_back_8 (by decide) ?_
    refine tm_V (As := [.int (-5)]) (rest := []) ⟨hx, hb, hml, hown, htg⟩ (c_X6_refuse l D E G _ a C hT ((-5) : Int32)) (cwV 1 htg (oh_gV q_296 q_298 q_0 q_66 q_299) rfl rfl rfl pdVX6_refuse ⟨Nat.le_of_ble_eq_true rfl, Nat.le_of_ble_eq_true rfl⟩) hK hP hD hG hS hA (va_recv hK hP (ci := 6) (q0 := 0) rfl (oh_wg (by decide) (sX_0 hT))) rfl hl.1 rfl (Nat.le_of_ble_eq_true rfl) dX6_back_10 ⟨Nat.le_of_ble_eq_true rfl, Nat.le_of_ble_eq_true rfl⟩ (fun r_12 C_13 H locs hq_14 hP hD hS => ?_)
    obtain ⟨hT, f_15, hq_14⟩ := hq_14
    have hF := fr_tr hF f_15 (by decide) (by decide)
    refine W.widen (k := 0) (n := 0) (Nat.le_refl _) (Nat.le_refl _) ?_
    have t_16 := hT
    rw [hQ]
    exact W.iret (v := r_12) hx hb hr (fun t ht hW => ⟨⟨r_12, C_13, rfl, ⟨hT, hF, ⟨(Eq.trans hq_14 (if_pos c_1).symm), ⟨fun h9 => absurd (Eq.trans h9.symm hq_14) (by decide), fun _ => (fun k k1 k2 => (fr_all f_15 10 15 (by decide) k k1 k2))⟩, ⟨fun h9 => absurd (Eq.trans h9.symm hq_14) (by decide), fun _ T hT => (absTX_eq hT (congrArg (fun z => gi z 7) (f_15.1 1 rfl (by decide))) (f_15.1 16 rfl (by decide)))⟩, ⟨fun h9 => absurd (Eq.trans h9.symm hq_14) (by decide), fun _ S hS0 => (hx_fr hS0 (f_15.1 29 rfl (by decide)) (f_15.1 30 rfl (by decide)))⟩⟩⟩, ⟨by rw [ht]; exact hP, hD⟩⟩, hS.F ht⟩) hS.2.2 dX6_back_13
