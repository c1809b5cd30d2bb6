set_option maxHeartbeats 4000000 in
set_option maxRecDepth 100000 in
theorem c_X7_land (l : Launch) (D : va_G) (E : Nat → ClassId) (G : Nat → Nat) (sz : Nat) (a : Nat → Nat) (C : Nat → va_E) (n : Nat) (hn : 74 ≤ n) (hT : TyM a E C) (hR : RelM C) : Met l yX7_land (oh_w yX7_land cX7_land 8 (some .int)) ({ frames := 10, cells := 0, slots := 0, locals := 219 }) (oh_Pm D E G [.ref (a 0)] (oh_W n a C) sz) (va_Qi (fun r (u : Nat → va_E) => TyM a E u ∧ fr [(8, 9), (13, 14), (24, 48), (48, 64), (64, 69), (69, 74)] [7, 9, 11, 13, 15, 21, 22, 23, 24, 25, 26] C u ∧ (RelM u) ∧ (gi (u 0) 7 = 0)) (oh_B D (va_A (oh_W n a C) sz) (fun u => oh_W n a u)) (va_A (oh_W n a C) sz)) 0 0 (va_A (oh_W n a C) sz) := by
  refine Met.ofW (cc := cX7_land) (maxL := 8) (ret := (some .int)) (by decide) rfl ?_
  intro p e s m args below meth c s₁ B hml hv
  obtain ⟨rfl, hsz, hP, hK, hD0, hG⟩ := hv
  have hx := B.exec
  have hb := B.bytes
  have hr := B.returns
  have hts := atoms_spec (ws := (oh_w yX7_land cX7_land 8 (some .int))) B.pre
  have htg : ∀ w ∈ oh_t, w.before _ s = true := fun w h => hts w (List.mem_cons_of_mem _ h)
  have hown : s.vm.findClass RX7 = some m.cls := findClass_of_methodNamed B.named
  have hlocks := B.notSynchronized
  have hT0 := hT
  subst hsz
  have hD := hD0.self (sz := s.heap.size)
  generalize hAe : va_A (oh_W n a C) s.heap.size = A at hD hG ⊢
  have hA : ∀ q : Nat, s.heap.size ≤ q → A q := fun q h => by rw [← hAe]; exact Or.inr h
  have hS : va_S A s.heap s.heap [] := va_S.rf
  have hF : fr [(8, 9), (13, 14), (24, 48), (48, 64), (64, 69), (69, 74)] [7, 9, 11, 13, 15, 21, 22, 23, 24, 25, 26] C C := fr_rf
  have hl := lv_entry ([.ref (a 0)]) (n := 8) (Nat.le_of_ble_eq_true rfl)
  rw [lg_entry_eq]
  generalize (lg_sl ([.ref (a 0)]) ++ List.replicate (8 - (lg_sl ([.ref (a 0)])).length) Slot.unset).toArray = ls at hl ⊢
  have hl : lv_has ls 8 [(0, .ref (a 0))] := hl
  refine oh_genQ (fun Q hQ => ?_)
  refine lv_aload_n hx hb dX7_land_0 rfl (lv_at hl 0 rfl) ?_
  refine va_get (D := D) (ci := 7) (v := .int (gi (C 0) 9)) (C := RX7) (T := TX7) (N := 29) hx hb htg ig_7 hown hK hP 0 (oh_wg (Nat.lt_of_lt_of_le (by decide) hn) (sM_0 hT)) rfl 9 (by decide) (htg _ q_982) (fun _ h9 => h9) rfl dX7_land_1 ?_
  refine lv_istore_n (lv' := [(1, .int (gi (C 0) 9)), (0, .ref (a 0))]) hx hb dX7_land_4 rfl hl (by decide) rfl (fun ls hl => ?_)
  refine lv_aload_n hx hb dX7_land_5 rfl (lv_at hl 1 rfl) ?_
  refine va_get (D := D) (ci := 7) (v := .int (gi (C 0) 11)) (C := RX7) (T := TX7) (N := 29) hx hb htg ig_7 hown hK hP 0 (oh_wg (Nat.lt_of_lt_of_le (by decide) hn) (sM_0 hT)) rfl 11 (by decide) (htg _ q_984) (fun _ h9 => h9) rfl dX7_land_6 ?_
  refine lv_istore_n (lv' := [(2, .int (gi (C 0) 11)), (1, .int (gi (C 0) 9)), (0, .ref (a 0))]) hx hb dX7_land_9 rfl hl (by decide) rfl (fun ls hl => ?_)
  refine lv_aload_n hx hb dX7_land_10 rfl (lv_at hl 2 rfl) ?_
  refine va_get (D := D) (ci := 7) (v := .int (gi (C 0) 13)) (C := RX7) (T := TX7) (N := 29) hx hb htg ig_7 hown hK hP 0 (oh_wg (Nat.lt_of_lt_of_le (by decide) hn) (sM_0 hT)) rfl 13 (by decide) (htg _ q_986) (fun _ h9 => h9) rfl dX7_land_11 ?_
  refine lv_istore_n (lv' := [(3, .int (gi (C 0) 13)), (2, .int (gi (C 0) 11)), (1, .int (gi (C 0) 9)), (0, .ref (a 0))]) hx hb dX7_land_14 rfl hl (by decide) rfl (fun ls hl => ?_)
  refine lv_aload_n hx hb dX7_land_15 rfl (lv_at hl 3 rfl) ?_
  refine va_get (D := D) (ci := 7) (v := .int (gi (C 0) 15)) (C := RX7) (T := TX7) (N := 29) hx hb htg ig_7 hown hK hP 0 (oh_wg (Nat.lt_of_lt_of_le (by decide) hn) (sM_0 hT)) rfl 15 (by decide) (htg _ q_988) (fun _ h9 => h9) rfl dX7_land_16 ?_
  refine lv_istore (lv' := [(4, .int (gi (C 0) 15)), (3, .int (gi (C 0) 13)), (2, .int (gi (C 0) 11)), (1, .int (gi (C 0) 9)), (0, .ref (a 0))]) hx hb dX7_land_19 hl (by decide) rfl (fun ls hl => ?_)
  refine lv_aload_n hx hb dX7_land_21 rfl (lv_at hl 4 rfl) ?_
  refine va_get (D := D) (ci := 7) (v := .ref (a 13)) (C := RX7) (T := TX7) (N := 29) hx hb htg ig_7 hown hK hP 0 (oh_wg (Nat.lt_of_lt_of_le (by decide) hn) (sM_0 hT)) rfl 17 (by decide) (htg _ q_990) (fun _ h9 => h9) rfl dX7_land_22 ?_
  refine lv_iconst (v := 0) hx hb dX7_land_25 (by decide) ?_
  refine th_iald hx hb hK hP 13 (Nat.lt_of_lt_of_le (by decide) hn) (sM_13 hT) (rg_in (rg_c (v := 0) (lo := 0) (hi := 0) (by decide)) (by decide)) dX7_land_26 ?_
  refine lv_istore (lv' := [(5, .int (ga (C 13) ((0 : Int32)).toNatClampNeg)), (4, .int (gi (C 0) 15)), (3, .int (gi (C 0) 13)), (2, .int (gi (C 0) 11)), (1, .int (gi (C 0) 9)), (0, .ref (a 0))]) hx hb dX7_land_27 hl (by decide) rfl (fun ls hl => ?_)
  refine lv_aload_n hx hb dX7_land_29 rfl (lv_at hl 5 rfl) ?_
  refine va_get (D := D) (ci := 7) (v := .ref (a 13)) (C := RX7) (T := TX7) (N := 29) hx hb htg ig_7 hown hK hP 0 (oh_wg (Nat.lt_of_lt_of_le (by decide) hn) (sM_0 hT)) rfl 17 (by decide) (htg _ q_990) (fun _ h9 => h9) rfl dX7_land_30 ?_
  refine lv_iconst (v := 1) hx hb dX7_land_33 (by decide) ?_
  refine th_iald hx hb hK hP 13 (Nat.lt_of_lt_of_le (by decide) hn) (sM_13 hT) (rg_in (rg_c (v := 1) (lo := 1) (hi := 1) (by decide)) (by decide)) dX7_land_34 ?_
  refine lv_istore (lv' := [(6, .int (ga (C 13) ((1 : Int32)).toNatClampNeg)), (5, .int (ga (C 13) ((0 : Int32)).toNatClampNeg)), (4, .int (gi (C 0) 15)), (3, .int (gi (C 0) 13)), (2, .int (gi (C 0) 11)), (1, .int (gi (C 0) 9)), (0, .ref (a 0))]) hx hb dX7_land_35 hl (by decide) rfl (fun ls hl => ?_)
  refine lv_aload_n hx hb dX7_land_37 rfl (lv_at hl 6 rfl) ?_
  refine tm_V (As := []) (rest := []) ⟨hx, hb, hml, hown, htg⟩ (c_X7_read l D E G _ a C n hn hT hR.1) (cwV 0 htg (oh_gV q_1193 q_1195 q_38 q_73 q_1196) rfl rfl rfl pdVX7_read ⟨Nat.le_of_ble_eq_true rfl, Nat.le_of_ble_eq_true rfl⟩) hK hP hD hG hS hA (va_recv hK hP (ci := 7) (q0 := 0) rfl (oh_wg (Nat.lt_of_lt_of_le (by decide) hn) (sM_0 hT))) rfl hl.1 rfl (Nat.le_of_ble_eq_true rfl) dX7_land_38 ⟨Nat.le_of_ble_eq_true rfl, Nat.le_of_ble_eq_true rfl⟩ (fun r_1 C_2 H locs hq_3 hP hD hS => ?_)
  obtain ⟨hT, f_4, hq_3⟩ := hq_3
  have hF := fr_tr hF f_4 (by decide) (by decide)
  refine W.widen (k := 0) (n := 0) (Nat.le_refl _) (Nat.le_refl _) ?_
  have t_5 := hT
  refine lv_istore (lv' := [(7, .int r_1), (6, .int (ga (C 13) ((1 : Int32)).toNatClampNeg)), (5, .int (ga (C 13) ((0 : Int32)).toNatClampNeg)), (4, .int (gi (C 0) 15)), (3, .int (gi (C 0) 13)), (2, .int (gi (C 0) 11)), (1, .int (gi (C 0) 9)), (0, .ref (a 0))]) hx hb dX7_land_41 hl (by decide) rfl (fun ls hl => ?_)
  refine lv_aload_n hx hb dX7_land_43 rfl (lv_at hl 7 rfl) ?_
  refine lv_iconst (v := 0) hx hb dX7_land_44 (by decide) ?_
  refine th_put (Tp := TyM a E) (Rl := fr [(8, 9), (13, 14), (24, 48), (48, 64), (64, 69), (69, 74)] [7, 9, 11, 13, 15, 21, 22, 23, 24, 25, 26] C) (ci := 7) (v := .int 0) (ty := .int) (CC := RX7) (T := TX7) (N := 29) hx hb htg ig_7 tyX7 tyX7_ok nmX7 hown hK hP hD hS 0 (Nat.lt_of_lt_of_le (by decide) hn) (sM_0 hT) rfl 7 (by decide) (htg _ q_980) (fun _ h9 => h9) rfl (by decide +kernel) rfl rfl (Nat.le_of_ble_eq_true rfl) (hT.up 0 (by decide) ⟨rfl, (rg_w (rg_c (v := 0) (lo := 0) (hi := 0) (by decide)) (by decide)), (fM_0_9 hT), (fM_0_11 hT), (fM_0_13 hT), (fM_0_15 hT), (fM_0_21 hT), (fM_0_23 hT)⟩) (fr_fd hF (sM_0 hT) (by decide)) dX7_land_45 (fun C_6 H locs e_7 hT hF hP hD hS => ?_)
  have t_8 := hT
  refine lv_iload hx hb dX7_land_48 (lv_at hl 0 rfl) ?_
  refine lv_if_ne (tgt := 105) hx hb dX7_land_50 (by decide) (fun (c_9 : ¬ (r_1 = 0)) => ?_) (fun (c_9 : r_1 = 0) => ?_)
  · refine lv_aload_n hx hb dX7_land_105 rfl (lv_at hl 7 rfl) ?_
    refine va_get (D := D) (ci := 7) (v := .int (gi (C_2 0) 26)) (C := RX7) (T := TX7) (N := 29) hx hb htg ig_7 hown hK hP 0 (oh_wg (Nat.lt_of_lt_of_le (by decide) hn) (sM_0 hT)) rfl 26 (by decide) (htg _ q_999) (fun _ h9 => h9) (oh_fv (c := C_6 0) (j := 26) rfl (show gi (C_6 0) 26 = gi (C_2 0) 26 by rw [e_7]; rfl)) dX7_land_106 ?_
    rw [hQ]
    exact W.iret (v := gi (C_2 0) 26) hx hb hr (fun t ht hW => ⟨⟨gi (C_2 0) 26, C_6, rfl, ⟨hT, hF, ⟨⟨(RelW.fr hq_3.2.1 (fr_fde (mc := []) (mf := [7]) fr_rf e_7 (sM_0 t_5) (by decide)) (by decide)), hR.2.fr hF (by decide)⟩, (show gi (C_6 0) 7 = (0 : Int32) by rw [e_7]; rfl)⟩⟩, ⟨by rw [ht]; exact hP, hD⟩⟩, hS.F ht⟩) hS.2.2 dX7_land_109
  · refine lv_aload_n hx hb dX7_land_53 rfl (lv_at hl 7 rfl) ?_
    refine lv_iload_n hx hb dX7_land_54 rfl (lv_at hl 6 rfl) ?_
    refine th_put (Tp := TyM a E) (Rl := fr [(8, 9), (13, 14), (24, 48), (48, 64), (64, 69), (69, 74)] [7, 9, 11, 13, 15, 21, 22, 23, 24, 25, 26] C) (ci := 7) (v := .int (gi (C 0) 9)) (ty := .int) (CC := RX7) (T := TX7) (N := 29) hx hb htg ig_7 tyX7 tyX7_ok nmX7 hown hK hP hD hS 0 (Nat.lt_of_lt_of_le (by decide) hn) (sM_0 hT) rfl 9 (by decide) (htg _ q_982) (fun _ h9 => h9) rfl (by decide +kernel) rfl rfl (Nat.le_of_ble_eq_true rfl) (hT.up 0 (by decide) ⟨rfl, (fM_0_7 hT), (rg_w (fM_0_9 hT0) (by decide)), (fM_0_11 hT), (fM_0_13 hT), (fM_0_15 hT), (fM_0_21 hT), (fM_0_23 hT)⟩) (fr_fd hF (sM_0 hT) (by decide)) dX7_land_55 (fun C_10 H locs e_11 hT hF hP hD hS => ?_)
    have t_12 := hT
    refine lv_aload_n hx hb dX7_land_58 rfl (lv_at hl 7 rfl) ?_
    refine lv_iload_n hx hb dX7_land_59 rfl (lv_at hl 5 rfl) ?_
    refine th_put (Tp := TyM a E) (Rl := fr [(8, 9), (13, 14), (24, 48), (48, 64), (64, 69), (69, 74)] [7, 9, 11, 13, 15, 21, 22, 23, 24, 25, 26] C) (ci := 7) (v := .int (gi (C 0) 11)) (ty := .int) (CC := RX7) (T := TX7) (N := 29) hx hb htg ig_7 tyX7 tyX7_ok nmX7 hown hK hP hD hS 0 (Nat.lt_of_lt_of_le (by decide) hn) (sM_0 hT) rfl 11 (by decide) (htg _ q_984) (fun _ h9 => h9) rfl (by decide +kernel) rfl rfl (Nat.le_of_ble_eq_true rfl) (hT.up 0 (by decide) ⟨rfl, (fM_0_7 hT), (fM_0_9 hT), (rg_w (fM_0_11 hT0) (by decide)), (fM_0_13 hT), (fM_0_15 hT), (fM_0_21 hT), (fM_0_23 hT)⟩) (fr_fd hF (sM_0 hT) (by decide)) dX7_land_60 (fun C_13 H locs e_14 hT hF hP hD hS => ?_)
    have t_15 := hT
    refine lv_aload_n hx hb dX7_land_63 rfl (lv_at hl 7 rfl) ?_
    refine lv_iload_n hx hb dX7_land_64 rfl (lv_at hl 4 rfl) ?_
    refine th_put (Tp := TyM a E) (Rl := fr [(8, 9), (13, 14), (24, 48), (48, 64), (64, 69), (69, 74)] [7, 9, 11, 13, 15, 21, 22, 23, 24, 25, 26] C) (ci := 7) (v := .int (gi (C 0) 13)) (ty := .int) (CC := RX7) (T := TX7) (N := 29) hx hb htg ig_7 tyX7 tyX7_ok nmX7 hown hK hP hD hS 0 (Nat.lt_of_lt_of_le (by decide) hn) (sM_0 hT) rfl 13 (by decide) (htg _ q_986) (fun _ h9 => h9) rfl (by decide +kernel) rfl rfl (Nat.le_of_ble_eq_true rfl) (hT.up 0 (by decide) ⟨rfl, (fM_0_7 hT), (fM_0_9 hT), (fM_0_11 hT), (rg_w (fM_0_13 hT0) (by decide)), (fM_0_15 hT), (fM_0_21 hT), (fM_0_23 hT)⟩) (fr_fd hF (sM_0 hT) (by decide)) dX7_land_65 (fun C_16 H locs e_17 hT hF hP hD hS => ?_)
    have t_18 := hT
    refine lv_aload_n hx hb dX7_land_68 rfl (lv_at hl 7 rfl) ?_
    refine lv_iload hx hb dX7_land_69 (lv_at hl 3 rfl) ?_
    refine th_put (Tp := TyM a E) (Rl := fr [(8, 9), (13, 14), (24, 48), (48, 64), (64, 69), (69, 74)] [7, 9, 11, 13, 15, 21, 22, 23, 24, 25, 26] C) (ci := 7) (v := .int (gi (C 0) 15)) (ty := .int) (CC := RX7) (T := TX7) (N := 29) hx hb htg ig_7 tyX7 tyX7_ok nmX7 hown hK hP hD hS 0 (Nat.lt_of_lt_of_le (by decide) hn) (sM_0 hT) rfl 15 (by decide) (htg _ q_988) (fun _ h9 => h9) rfl (by decide +kernel) rfl rfl (Nat.le_of_ble_eq_true rfl) (hT.up 0 (by decide) ⟨rfl, (fM_0_7 hT), (fM_0_9 hT), (fM_0_11 hT), (fM_0_13 hT), (rg_w (fM_0_15 hT0) (by decide)), (fM_0_21 hT), (fM_0_23 hT)⟩) (fr_fd hF (sM_0 hT) (by decide)) dX7_land_71 (fun C_19 H locs e_20 hT hF hP hD hS => ?_)
    have t_21 := hT
    refine lv_aload_n hx hb dX7_land_74 rfl (lv_at hl 7 rfl) ?_
    refine va_get (D := D) (ci := 7) (v := .ref (a 13)) (C := RX7) (T := TX7) (N := 29) hx hb htg ig_7 hown hK hP 0 (oh_wg (Nat.lt_of_lt_of_le (by decide) hn) (sM_0 hT)) rfl 17 (by decide) (htg _ q_990) (fun _ h9 => h9) rfl dX7_land_75 ?_
    refine lv_iconst (v := 0) hx hb dX7_land_78 (by decide) ?_
    refine lv_iload hx hb dX7_land_79 (lv_at hl 2 rfl) ?_
    refine th_iast (T := TyM a E) (Rl := fr [(8, 9), (13, 14), (24, 48), (48, 64), (64, 69), (69, 74)] [7, 9, 11, 13, 15, 21, 22, 23, 24, 25, 26] C) hx hb hK hP hD hS 13 (Nat.lt_of_lt_of_le (by decide) hn) (sM_13 hT) (rg_in (rg_c (v := 0) (lo := 0) (hi := 0) (by decide)) (by decide)) (hT.up 13 (by decide) (tA_upd (tM_13 hT) tA_any)) (fr_st hF (by decide) (by decide)) dX7_land_81 (fun C_22 H locs e_23 hT hF hP hD hS => ?_)
    have t_24 := hT
    refine lv_aload_n hx hb dX7_land_82 rfl (lv_at hl 7 rfl) ?_
    refine va_get (D := D) (ci := 7) (v := .ref (a 13)) (C := RX7) (T := TX7) (N := 29) hx hb htg ig_7 hown hK hP 0 (oh_wg (Nat.lt_of_lt_of_le (by decide) hn) (sM_0 hT)) rfl 17 (by decide) (htg _ q_990) (fun _ h9 => h9) rfl dX7_land_83 ?_
    refine lv_iconst (v := 1) hx hb dX7_land_86 (by decide) ?_
    refine lv_iload hx hb dX7_land_87 (lv_at hl 1 rfl) ?_
    refine th_iast (T := TyM a E) (Rl := fr [(8, 9), (13, 14), (24, 48), (48, 64), (64, 69), (69, 74)] [7, 9, 11, 13, 15, 21, 22, 23, 24, 25, 26] C) hx hb hK hP hD hS 13 (Nat.lt_of_lt_of_le (by decide) hn) (sM_13 hT) (rg_in (rg_c (v := 1) (lo := 1) (hi := 1) (by decide)) (by decide)) (hT.up 13 (by decide) (tA_upd (tM_13 hT) tA_any)) (fr_st hF (by decide) (by decide)) dX7_land_89 (fun C_25 H locs e_26 hT hF hP hD hS => ?_)
    have t_27 := hT
    refine lv_aload_n hx hb dX7_land_90 rfl (lv_at hl 7 rfl) ?_
    refine lv_bipush (v := (-2)) hx hb dX7_land_91 (by decide) ?_
    refine tm_V (As := [.int (-2)]) (rest := []) ⟨hx, hb, hml, hown, htg⟩ (c_X7_refuse l D E G _ a C_25 n hn hT ((-2) : Int32) (rg_w (rg_c (v := (-2)) (lo := (-2)) (hi := (-2)) (by decide)) (by decide))) (cwV 1 htg (oh_gV q_1071 q_1073 q_29 q_73 q_1074) rfl rfl rfl pdVX7_refuse ⟨Nat.le_of_ble_eq_true rfl, Nat.le_of_ble_eq_true rfl⟩) hK hP hD hG hS hA (va_recv hK hP (ci := 7) (q0 := 0) rfl (oh_wg (Nat.lt_of_lt_of_le (by decide) hn) (sM_0 hT))) rfl hl.1 rfl (Nat.le_of_ble_eq_true rfl) dX7_land_93 ⟨Nat.le_of_ble_eq_true rfl, Nat.le_of_ble_eq_true rfl⟩ (fun r_28 C_29 H locs hq_30 hP hD hS => ?_)
    obtain ⟨hT, f_31, hq_30⟩ := hq_30
    have hF := fr_tr hF f_31 (by decide) (by decide)
    refine W.widen (k := 0) (n := 0) (Nat.le_refl _) (Nat.le_refl _) ?_
    have t_32 := hT
    refine lv_pop hx hb dX7_land_96 rfl ?_
    refine lv_bipush (v := (-20)) hx hb dX7_land_97 (by decide) ?_
    refine lv_aload_n hx hb dX7_land_99 rfl (lv_at hl 7 rfl) ?_
    refine va_get (D := D) (ci := 7) (v := .int (gi (C_2 0) 25)) (C := RX7) (T := TX7) (N := 29) hx hb htg ig_7 hown hK hP 0 (oh_wg (Nat.lt_of_lt_of_le (by decide) hn) (sM_0 hT)) rfl 25 (by decide) (htg _ q_998) (fun _ h9 => h9) (oh_fv (c := C_29 0) (j := 25) rfl (Eq.trans (congrArg vi (f_31.2 25 (by decide))) (Eq.trans (congrArg (fun z => gi z 25) (th_un e_26 (by decide))) (Eq.trans (congrArg (fun z => gi z 25) (th_un e_23 (by decide))) (Eq.trans (show gi (C_19 0) 25 = gi (C_16 0) 25 by rw [e_20]; rfl) (Eq.trans (show gi (C_16 0) 25 = gi (C_13 0) 25 by rw [e_17]; rfl) (Eq.trans (show gi (C_13 0) 25 = gi (C_10 0) 25 by rw [e_14]; rfl) (Eq.trans (show gi (C_10 0) 25 = gi (C_6 0) 25 by rw [e_11]; rfl) (show gi (C_6 0) 25 = gi (C_2 0) 25 by rw [e_7]; rfl))))))))) dX7_land_100 ?_
    refine lv_isub hx hb dX7_land_103 ?_
    rw [hQ]
    exact W.iret (v := (-20) - (gi (C_2 0) 25)) hx hb hr (fun t ht hW => ⟨⟨(-20) - (gi (C_2 0) 25), C_29, rfl, ⟨hT, hF, ⟨⟨(relW_back hR.1 hq_3.2.1 (fun i hi => (Eq.trans (f_31.1 _ (inR_out hi (by decide)) (by omega)) (Eq.trans (th_un e_26 (by omega)) (Eq.trans (th_un e_23 (by omega)) (Eq.trans (th_un e_20 (by omega)) (Eq.trans (th_un e_17 (by omega)) (Eq.trans (th_un e_14 (by omega)) (Eq.trans (th_un e_11 (by omega)) (th_un e_7 (by omega)))))))))) (congrArg Int32.toInt (Eq.trans (congrArg vi (f_31.2 13 (by decide))) (Eq.trans (congrArg (fun z => gi z 13) (th_un e_26 (by decide))) (Eq.trans (congrArg (fun z => gi z 13) (th_un e_23 (by decide))) (Eq.trans (show gi (C_19 0) 13 = gi (C_16 0) 13 by rw [e_20]; rfl) (show gi (C_16 0) 13 = (gi (C 0) 13) by rw [e_17]; rfl)))))) hq_3.2.2 (Eq.trans (f_31.1 14 rfl (by decide)) (Eq.trans (th_un e_26 (by decide)) (Eq.trans (th_un e_23 (by decide)) (Eq.trans (th_un e_20 (by decide)) (Eq.trans (th_un e_17 (by decide)) (Eq.trans (th_un e_14 (by decide)) (Eq.trans (th_un e_11 (by decide)) (Eq.trans (th_un e_7 (by decide)) (f_4.1 14 rfl (by decide))))))))))), hR.2.fr hF (by decide)⟩, (Eq.trans (congrArg vi (f_31.2 7 (by decide))) (Eq.trans (congrArg (fun z => gi z 7) (th_un e_26 (by decide))) (Eq.trans (congrArg (fun z => gi z 7) (th_un e_23 (by decide))) (Eq.trans (show gi (C_19 0) 7 = gi (C_16 0) 7 by rw [e_20]; rfl) (Eq.trans (show gi (C_16 0) 7 = gi (C_13 0) 7 by rw [e_17]; rfl) (Eq.trans (show gi (C_13 0) 7 = gi (C_10 0) 7 by rw [e_14]; rfl) (Eq.trans (show gi (C_10 0) 7 = gi (C_6 0) 7 by rw [e_11]; rfl) (show gi (C_6 0) 7 = (0 : Int32) by rw [e_7]; rfl))))))))⟩⟩, ⟨by rw [ht]; exact hP, hD⟩⟩, hS.F ht⟩) hS.2.2 dX7_land_104

theorem oh_in64 {x : Int32} {l k : Int64} {l' k' : Int32} (hl : l = Int32.toInt64 l') (hk : k = Int32.toInt64 k') (h : ¬ (l ≤ Int32.toInt64 x ∧ Int32.toInt64 x ≤ k)) : ¬ (l' ≤ x ∧ x ≤ k') := by
  intro q
  refine h ⟨?_, ?_⟩
  · rw [hl]
    exact Int64.le_iff_toInt_le.mpr (by rw [oh_l32, oh_l32]; exact Int32.le_iff_toInt_le.mp q.1)
  · rw [hk]
    exact Int64.le_iff_toInt_le.mpr (by rw [oh_l32, oh_l32]; exact Int32.le_iff_toInt_le.mp q.2)
theorem oh_rgI {x p q : Int32} (h : rg x p.toInt q.toInt) : p ≤ x ∧ x ≤ q := ⟨Int32.le_iff_toInt_le.mpr h.1, Int32.le_iff_toInt_le.mpr h.2⟩
theorem oh_s250 {s : Int32} (hs : rg s 0 250) : ((250 : Int32) - s).toInt = 250 - s.toInt := by
  rw [Int32.toInt_sub]
  exact oh_bmod (by show _ ≤ 250 - s.toInt; have := hs.2; omega) (by show 250 - s.toInt ≤ _; have := hs.1; omega)
theorem oh_fle {s n : Int32} (hs : rg s 0 250) (hn : rg n 1 4) (c : n ≤ (250 : Int32) - s) : s + n ≤ (250 : Int32) := by
  have a := Int32.le_iff_toInt_le.mp c
  rw [oh_s250 hs] at a
  refine Int32.le_iff_toInt_le.mpr ?_
  rw [oh_adn hs (oh_rgI (p := 1) (q := 4) hn).1 (oh_rgI (p := 1) (q := 4) hn).2]
  show _ ≤ (250 : Int)
  omega
theorem oh_flt {s n : Int32} (hs : rg s 0 250) (hn : rg n 1 4) (c : (250 : Int32) - s < n) : (250 : Int32) < s + n := by
  have a := Int32.lt_iff_toInt_lt.mp c
  rw [oh_s250 hs] at a
  refine Int32.lt_iff_toInt_lt.mpr ?_
  rw [oh_adn hs (oh_rgI (p := 1) (q := 4) hn).1 (oh_rgI (p := 1) (q := 4) hn).2]
  show (250 : Int) < _
  omega

set_option maxHeartbeats 4000000 in
set_option maxRecDepth 100000 in
theorem c_X7_feed (l : Launch) (D : va_G) (E : Nat → ClassId) (G : Nat → Nat) (sz : Nat) (a : Nat → Nat) (C : Nat → va_E) (n : Nat) (hn : 74 ≤ n) (hT : TyM a E C) (x1 : Int32) (x2 : Int32) (hR : RelM C) : Met l yX7_feed (oh_w yX7_feed cX7_feed 4 (some .int)) ({ frames := 1, cells := 0, slots := 0, locals := 25 }) (oh_Pm D E G [.ref (a 0), .int x1, .int x2] (oh_W n a C) sz) (va_Qi (fun r (u : Nat → va_E) => TyM a E u ∧ fr [(7, 8), (8, 9)] [7] C u ∧ (RelM u) ∧ (r = oh_feed (gi (C 0) 7) x2) ∧ (gi (u 0) 7 = oh_fsz (gi (C 0) 7) x2)) (oh_B D (va_A (oh_W n a C) sz) (fun u => oh_W n a u)) (va_A (oh_W n a C) sz)) 0 0 (va_A (oh_W n a C) sz) := by
  refine Met.ofW (cc := cX7_feed) (maxL := 4) (ret := (some .int)) (by decide) rfl ?_
  intro p e s m args below meth c s₁ B hml hv
  obtain ⟨rfl, hsz, hP, hK, hD0, hG⟩ := hv
  have hx := B.exec
  have hb := B.bytes
  have hr := B.returns
  have hts := atoms_spec (ws := (oh_w yX7_feed cX7_feed 4 (some .int))) B.pre
  have htg : ∀ w ∈ oh_t, w.before _ s = true := fun w h => hts w (List.mem_cons_of_mem _ h)
  have hown : s.vm.findClass RX7 = some m.cls := findClass_of_methodNamed B.named
  have hlocks := B.notSynchronized
  have hT0 := hT
  subst hsz
  have hD := hD0.self (sz := s.heap.size)
  generalize hAe : va_A (oh_W n a C) s.heap.size = A at hD hG ⊢
  have hA : ∀ q : Nat, s.heap.size ≤ q → A q := fun q h => by rw [← hAe]; exact Or.inr h
  have hS : va_S A s.heap s.heap [] := va_S.rf
  have hF : fr [(7, 8), (8, 9)] [7] C C := fr_rf
  have hl := lv_entry ([.ref (a 0), .int x1, .int x2]) (n := 4) (Nat.le_of_ble_eq_true rfl)
  rw [lg_entry_eq]
  generalize (lg_sl ([.ref (a 0), .int x1, .int x2]) ++ List.replicate (4 - (lg_sl ([.ref (a 0), .int x1, .int x2])).length) Slot.unset).toArray = ls at hl ⊢
  have hl : lv_has ls 4 [(0, .ref (a 0)), (1, .int x1), (2, .int x2)] := hl
  refine oh_genQ (fun Q hQ => ?_)
  refine lv_iload_n hx hb dX7_feed_0 rfl (lv_at hl 2 rfl) ?_
  refine lv_i2l (v := Int32.toInt64 x2) hx hb dX7_feed_1 (by rfl) ?_
  refine lv_lconst (v := 1) hx hb dX7_feed_2 (by decide) ?_
  refine lv_ldc2 (v := 4) hx hb hown (htg _ q_1069) dX7_feed_3 ?_
  refine tq_S (As := [.long (Int32.toInt64 x2), .long 1, .long 4]) (rest := []) (ws := []) ⟨hx, hb, hml, hown, htg⟩ (c_X7_in l D E G (Int32.toInt64 x2) (1 : Int64) (4 : Int64)) (va_cwS 3 htg (oh_gS q_1066 q_1067 q_73 q_1068) rfl rfl rfl pdX7_in ⟨Nat.le_of_ble_eq_true rfl, Nat.le_of_ble_eq_true rfl⟩) hK va_nil hG hS rfl hl.1 rfl (Nat.le_of_ble_eq_true rfl) dX7_feed_6 ⟨Nat.le_of_ble_eq_true rfl, Nat.le_of_ble_eq_true rfl⟩ (fun r_1 hq_2 => ?_)
  refine lv_if_ne (tgt := 19) hx hb dX7_feed_9 (by decide) (fun (c_3 : ¬ (r_1 = 0)) => ?_) (fun (c_3 : r_1 = 0) => ?_)
  · have u_4 := hq_2.2.1 c_3
    refine lv_iload_n hx hb dX7_feed_19 rfl (lv_at hl 2 rfl) ?_
    refine lv_sipush (v := 250) hx hb dX7_feed_20 (by decide) ?_
    refine lv_aload_n hx hb dX7_feed_23 rfl (lv_at hl 0 rfl) ?_
    refine va_get (D := D) (ci := 7) (v := .int (gi (C 0) 7)) (C := RX7) (T := TX7) (N := 29) hx hb htg ig_7 hown hK hP 0 (oh_wg (Nat.lt_of_lt_of_le (by decide) hn) (sM_0 hT)) rfl 7 (by decide) (htg _ q_980) (fun _ h9 => h9) rfl dX7_feed_24 ?_
    refine lv_isub hx hb dX7_feed_27 ?_
    refine lv_icmp_le (tgt := 38) hx hb dX7_feed_28 (by decide) (fun (c_5 : x2 ≤ (250 - (gi (C 0) 7))) => ?_) (fun (c_5 : ¬ (x2 ≤ (250 - (gi (C 0) 7)))) => ?_)
    · refine lv_iload_n hx hb dX7_feed_38 rfl (lv_at hl 2 rfl) ?_
      refine lv_iconst (v := 1) hx hb dX7_feed_39 (by decide) ?_
      refine lv_isub hx hb dX7_feed_40 ?_
      refine lv_istore_n (lv' := [(3, .int (x2 - 1)), (0, .ref (a 0)), (1, .int x1), (2, .int x2)]) hx hb dX7_feed_41 rfl hl (by decide) rfl (fun ls hl => ?_)
      have L_42 : ∀ (d : Nat) (K42 : Nat → va_E) (z42_3 : Int32) (H : Heap) (locs : List Loc) (ls : Array Slot), (z42_3.toInt + 1).toNat = d → rg z42_3 (-1) 3 → ((gi (K42 0) 7).toInt + z42_3.toInt = (gi (C 0) 7).toInt + x2.toInt - 1) → TyM a E K42 → fr [(7, 8), (8, 9)] [7] C K42 → fr [(7, 8)] [7] C K42 → va_P D vwCl (oh_W n a K42) H → va_D A (oh_W n a K42) → va_S A s.heap H locs → lv_has ls 4 [(3, .int z42_3), (0, .ref (a 0)), (1, .int x1), (2, .int x2)] → W p l e ({ frames := 1, cells := 0, slots := 0, locals := 25 }) s m (([.ref (a 0), .int x1, .int x2] : List Value).toArray) below meth c H locs 0 0 Q (F0 m 42 ls []) := by
        intro d
        induction d using Nat.strongRecOn with
        | ind d ih_42 =>
        intro K42 z42_3 H locs ls hd_42 hz42_3 hv_42 hT hF hLF_42 hP hD hS hl
        have t_6 := hT
        refine lv_iload_n hx hb dX7_feed_42 rfl (lv_at hl 0 rfl) ?_
        refine lv_if_lt (tgt := 78) hx hb dX7_feed_43 (by decide) (fun (c_7 : z42_3 < 0) => ?_) (fun (c_7 : ¬ (z42_3 < 0)) => ?_)
        · refine lv_aload_n hx hb dX7_feed_78 rfl (lv_at hl 1 rfl) ?_
          refine va_get (D := D) (ci := 7) (v := .int (gi (K42 0) 7)) (C := RX7) (T := TX7) (N := 29) hx hb htg ig_7 hown hK hP 0 (oh_wg (Nat.lt_of_lt_of_le (by decide) hn) (sM_0 hT)) rfl 7 (by decide) (htg _ q_980) (fun _ h9 => h9) rfl dX7_feed_79 ?_
          rw [hQ]
          exact W.iret (v := gi (K42 0) 7) hx hb hr (fun t ht hW => ⟨⟨gi (K42 0) 7, K42, rfl, ⟨hT, hF, ⟨⟨hR.1.fr hF (by decide), hR.2.fr hF (by decide)⟩, (oh_fd3 (fM_0_7 hT0) (oh_rgI (p := 1) (q := 4) (rg_w (lo := 1) (hi := 4) (rg_il (rgL_i (rg_il (rnL_leu u_4.2 (rnL_lel u_4.1 (rgL_c (v := 1) (lo := 1) (hi := 1) (by decide)) (rgL_i (rg_any _))) (rgL_c (v := 4) (lo := 4) (hi := 4) (by decide)))))) (by decide))).1 (oh_rgI (p := 1) (q := 4) (rg_w (lo := 1) (hi := 4) (rg_il (rgL_i (rg_il (rnL_leu u_4.2 (rnL_lel u_4.1 (rgL_c (v := 1) (lo := 1) (hi := 1) (by decide)) (rgL_i (rg_any _))) (rgL_c (v := 4) (lo := 4) (hi := 4) (by decide)))))) (by decide))).2 (oh_fle (fM_0_7 hT0) (rg_w (lo := 1) (hi := 4) (rg_il (rgL_i (rg_il (rnL_leu u_4.2 (rnL_lel u_4.1 (rgL_c (v := 1) (lo := 1) (hi := 1) (by decide)) (rgL_i (rg_any _))) (rgL_c (v := 4) (lo := 4) (hi := 4) (by decide)))))) (by decide)) c_5) (by have h7 := (rn_ltu (u' := (-1)) c_7 hz42_3 (rg_c (v := 0) (lo := 0) (hi := 0) (by decide)) (by decide)); have h8 := h7.1; have h9 := h7.2; omega)), (oh_fz3 (fM_0_7 hT0) (oh_rgI (p := 1) (q := 4) (rg_w (lo := 1) (hi := 4) (rg_il (rgL_i (rg_il (rnL_leu u_4.2 (rnL_lel u_4.1 (rgL_c (v := 1) (lo := 1) (hi := 1) (by decide)) (rgL_i (rg_any _))) (rgL_c (v := 4) (lo := 4) (hi := 4) (by decide)))))) (by decide))).1 (oh_rgI (p := 1) (q := 4) (rg_w (lo := 1) (hi := 4) (rg_il (rgL_i (rg_il (rnL_leu u_4.2 (rnL_lel u_4.1 (rgL_c (v := 1) (lo := 1) (hi := 1) (by decide)) (rgL_i (rg_any _))) (rgL_c (v := 4) (lo := 4) (hi := 4) (by decide)))))) (by decide))).2 (oh_fle (fM_0_7 hT0) (rg_w (lo := 1) (hi := 4) (rg_il (rgL_i (rg_il (rnL_leu u_4.2 (rnL_lel u_4.1 (rgL_c (v := 1) (lo := 1) (hi := 1) (by decide)) (rgL_i (rg_any _))) (rgL_c (v := 4) (lo := 4) (hi := 4) (by decide)))))) (by decide)) c_5) (by have h7 := (rn_ltu (u' := (-1)) c_7 hz42_3 (rg_c (v := 0) (lo := 0) (hi := 0) (by decide)) (by decide)); have h8 := h7.1; have h9 := h7.2; omega))⟩⟩, ⟨by rw [ht]; exact hP, hD⟩⟩, hS.F ht⟩) hS.2.2 dX7_feed_82
        · refine lv_aload_n hx hb dX7_feed_46 rfl (lv_at hl 1 rfl) ?_
          refine va_get (D := D) (ci := 7) (v := .ref (a 7)) (C := RX7) (T := TX7) (N := 29) hx hb htg ig_7 hown hK hP 0 (oh_wg (Nat.lt_of_lt_of_le (by decide) hn) (sM_0 hT)) rfl 6 (by decide) (htg _ q_979) (fun _ h9 => h9) rfl dX7_feed_47 ?_
          refine lv_aload_n hx hb dX7_feed_50 rfl (lv_at hl 1 rfl) ?_
          refine lv_dup hx hb dX7_feed_51 rfl ?_
          refine va_get (D := D) (ci := 7) (v := .int (gi (K42 0) 7)) (C := RX7) (T := TX7) (N := 29) hx hb htg ig_7 hown hK hP 0 (oh_wg (Nat.lt_of_lt_of_le (by decide) hn) (sM_0 hT)) rfl 7 (by decide) (htg _ q_980) (fun _ h9 => h9) rfl dX7_feed_52 ?_
          refine lv_dup_x1 hx hb dX7_feed_55 rfl rfl ?_
          refine lv_iconst (v := 1) hx hb dX7_feed_56 (by decide) ?_
          refine lv_iadd hx hb dX7_feed_57 ?_
          refine th_put (Tp := TyM a E) (Rl := fr [(7, 8), (8, 9)] [7] C) (ci := 7) (v := .int ((gi (K42 0) 7) + 1)) (ty := .int) (CC := RX7) (T := TX7) (N := 29) hx hb htg ig_7 tyX7 tyX7_ok nmX7 hown hK hP hD hS 0 (Nat.lt_of_lt_of_le (by decide) hn) (sM_0 hT) rfl 7 (by decide) (htg _ q_980) (fun _ h9 => h9) rfl (by decide +kernel) rfl rfl (Nat.le_of_ble_eq_true rfl) (hT.up 0 (by decide) ⟨rfl, (rg_w (rg_add (lo := 1) (hi := 250) (l := 0) (u := 249) ⟨(fM_0_7 t_6).1, (oh_ap1 (rg_w (rn_lel (Int32.not_lt.mp c_7) (rg_c (v := 0) (lo := 0) (hi := 0) (by decide)) hz42_3) (by decide)) (fM_0_7 hT0) (rg_w (lo := 1) (hi := 4) (rg_il (rgL_i (rg_il (rnL_leu u_4.2 (rnL_lel u_4.1 (rgL_c (v := 1) (lo := 1) (hi := 1) (by decide)) (rgL_i (rg_any _))) (rgL_c (v := 4) (lo := 4) (hi := 4) (by decide)))))) (by decide)) (oh_fdp (fM_0_7 hT0) (oh_rgI (p := 1) (q := 4) (rg_w (lo := 1) (hi := 4) (rg_il (rgL_i (rg_il (rnL_leu u_4.2 (rnL_lel u_4.1 (rgL_c (v := 1) (lo := 1) (hi := 1) (by decide)) (rgL_i (rg_any _))) (rgL_c (v := 4) (lo := 4) (hi := 4) (by decide)))))) (by decide))).1 (oh_rgI (p := 1) (q := 4) (rg_w (lo := 1) (hi := 4) (rg_il (rgL_i (rg_il (rnL_leu u_4.2 (rnL_lel u_4.1 (rgL_c (v := 1) (lo := 1) (hi := 1) (by decide)) (rgL_i (rg_any _))) (rgL_c (v := 4) (lo := 4) (hi := 4) (by decide)))))) (by decide))).2 (oh_fle (fM_0_7 hT0) (rg_w (lo := 1) (hi := 4) (rg_il (rgL_i (rg_il (rnL_leu u_4.2 (rnL_lel u_4.1 (rgL_c (v := 1) (lo := 1) (hi := 1) (by decide)) (rgL_i (rg_any _))) (rgL_c (v := 4) (lo := 4) (hi := 4) (by decide)))))) (by decide)) c_5)) hv_42).2⟩ (rg_c (v := 1) (lo := 1) (hi := 1) (by decide)) (by decide)) (by decide)), (fM_0_9 hT), (fM_0_11 hT), (fM_0_13 hT), (fM_0_15 hT), (fM_0_21 hT), (fM_0_23 hT)⟩) (fr_fd hF (sM_0 hT) (by decide)) dX7_feed_58 (fun C_8 H locs e_9 hT hF hP hD hS => ?_)
          have t_10 := hT
          refine lv_iload_n hx hb dX7_feed_61 rfl (lv_at hl 2 rfl) ?_
          refine lv_bipush (v := 8) hx hb dX7_feed_62 (by decide) ?_
          refine lv_iload_n hx hb dX7_feed_64 rfl (lv_at hl 0 rfl) ?_
          refine lv_imul hx hb dX7_feed_65 ?_
          refine lv_ishr hx hb dX7_feed_66 ?_
          refine lv_sipush (v := 255) hx hb dX7_feed_67 (by decide) ?_
          refine lv_iand hx hb dX7_feed_70 ?_
          have n_11 : vp_in (gi (K42 0) 7) 250 := (rg_in (l := 0) (u := 249) ⟨(fM_0_7 t_6).1, (oh_ap1 (rg_w (rn_lel (Int32.not_lt.mp c_7) (rg_c (v := 0) (lo := 0) (hi := 0) (by decide)) hz42_3) (by decide)) (fM_0_7 hT0) (rg_w (lo := 1) (hi := 4) (rg_il (rgL_i (rg_il (rnL_leu u_4.2 (rnL_lel u_4.1 (rgL_c (v := 1) (lo := 1) (hi := 1) (by decide)) (rgL_i (rg_any _))) (rgL_c (v := 4) (lo := 4) (hi := 4) (by decide)))))) (by decide)) (oh_fdp (fM_0_7 hT0) (oh_rgI (p := 1) (q := 4) (rg_w (lo := 1) (hi := 4) (rg_il (rgL_i (rg_il (rnL_leu u_4.2 (rnL_lel u_4.1 (rgL_c (v := 1) (lo := 1) (hi := 1) (by decide)) (rgL_i (rg_any _))) (rgL_c (v := 4) (lo := 4) (hi := 4) (by decide)))))) (by decide))).1 (oh_rgI (p := 1) (q := 4) (rg_w (lo := 1) (hi := 4) (rg_il (rgL_i (rg_il (rnL_leu u_4.2 (rnL_lel u_4.1 (rgL_c (v := 1) (lo := 1) (hi := 1) (by decide)) (rgL_i (rg_any _))) (rgL_c (v := 4) (lo := 4) (hi := 4) (by decide)))))) (by decide))).2 (oh_fle (fM_0_7 hT0) (rg_w (lo := 1) (hi := 4) (rg_il (rgL_i (rg_il (rnL_leu u_4.2 (rnL_lel u_4.1 (rgL_c (v := 1) (lo := 1) (hi := 1) (by decide)) (rgL_i (rg_any _))) (rgL_c (v := 4) (lo := 4) (hi := 4) (by decide)))))) (by decide)) c_5)) hv_42).2⟩ (by decide))
          refine th_iast (T := TyM a E) (Rl := fr [(7, 8), (8, 9)] [7] C) hx hb hK hP hD hS 7 (Nat.lt_of_lt_of_le (by decide) hn) (sM_7 hT) n_11 (hT.up 7 (by decide) (tA_upd (tM_7 hT) tA_any)) (fr_st hF (by decide) (by decide)) dX7_feed_71 (fun C_12 H locs e_13 hT hF hP hD hS => ?_)
          have t_14 := hT
          refine lv_iinc (v := z42_3 + (-1)) (lv' := [(3, .int (z42_3 + (-1))), (0, .ref (a 0)), (1, .int x1), (2, .int x2)]) hx hb dX7_feed_72 hl (k := 0) rfl (by rfl) (by decide) rfl (fun ls hl => ?_)
          refine lv_goto (tgt := 42) hx hb dX7_feed_75 (by decide) ?_
          exact ih_42 _ (hd_42 ▸ mu_dn (rn_lel (Int32.not_lt.mp c_7) (rg_c (v := 0) (lo := 0) (hi := 0) (by decide)) hz42_3) (by decide)) C_12 (z42_3 + (-1)) _ _ ls rfl (rg_w (rg_add (lo := (-1)) (hi := 2) (rn_lel (Int32.not_lt.mp c_7) (rg_c (v := 0) (lo := 0) (hi := 0) (by decide)) hz42_3) (rg_c (v := (-1)) (lo := (-1)) (hi := (-1)) (by decide)) (by decide)) (by decide)) (by rw [(Eq.trans (congrArg (fun z => gi z 7) (th_un e_13 (by decide))) (show gi (C_8 0) 7 = ((gi (K42 0) 7) + 1) by rw [e_9]; rfl)), oh_add1 ⟨(fM_0_7 t_6).1, (oh_ap1 (rg_w (rn_lel (Int32.not_lt.mp c_7) (rg_c (v := 0) (lo := 0) (hi := 0) (by decide)) hz42_3) (by decide)) (fM_0_7 hT0) (rg_w (lo := 1) (hi := 4) (rg_il (rgL_i (rg_il (rnL_leu u_4.2 (rnL_lel u_4.1 (rgL_c (v := 1) (lo := 1) (hi := 1) (by decide)) (rgL_i (rg_any _))) (rgL_c (v := 4) (lo := 4) (hi := 4) (by decide)))))) (by decide)) (oh_fdp (fM_0_7 hT0) (oh_rgI (p := 1) (q := 4) (rg_w (lo := 1) (hi := 4) (rg_il (rgL_i (rg_il (rnL_leu u_4.2 (rnL_lel u_4.1 (rgL_c (v := 1) (lo := 1) (hi := 1) (by decide)) (rgL_i (rg_any _))) (rgL_c (v := 4) (lo := 4) (hi := 4) (by decide)))))) (by decide))).1 (oh_rgI (p := 1) (q := 4) (rg_w (lo := 1) (hi := 4) (rg_il (rgL_i (rg_il (rnL_leu u_4.2 (rnL_lel u_4.1 (rgL_c (v := 1) (lo := 1) (hi := 1) (by decide)) (rgL_i (rg_any _))) (rgL_c (v := 4) (lo := 4) (hi := 4) (by decide)))))) (by decide))).2 (oh_fle (fM_0_7 hT0) (rg_w (lo := 1) (hi := 4) (rg_il (rgL_i (rg_il (rnL_leu u_4.2 (rnL_lel u_4.1 (rgL_c (v := 1) (lo := 1) (hi := 1) (by decide)) (rgL_i (rg_any _))) (rgL_c (v := 4) (lo := 4) (hi := 4) (by decide)))))) (by decide)) c_5)) hv_42).2⟩, oh_sub1 (rg_w (rn_lel (Int32.not_lt.mp c_7) (rg_c (v := 0) (lo := 0) (hi := 0) (by decide)) hz42_3) (by decide))]; omega) hT hF (fr_ste (fr_fde hLF_42 e_9 (sM_0 t_6) (by decide)) e_13 (by decide) (by decide)) hP hD hS (lv_sub hl [0, 1, 2, 3] rfl)
      exact L_42 _ C (x2 - 1) _ _ ls rfl (rg_w (rg_sub (lo := 0) (hi := 3) (rg_il (rgL_i (rg_il (rnL_leu u_4.2 (rnL_lel u_4.1 (rgL_c (v := 1) (lo := 1) (hi := 1) (by decide)) (rgL_i (rg_any _))) (rgL_c (v := 4) (lo := 4) (hi := 4) (by decide)))))) (rg_c (v := 1) (lo := 1) (hi := 1) (by decide)) (by decide)) (by decide)) (by rw [oh_sub1' (rg_w (lo := 1) (hi := 4) (rg_il (rgL_i (rg_il (rnL_leu u_4.2 (rnL_lel u_4.1 (rgL_c (v := 1) (lo := 1) (hi := 1) (by decide)) (rgL_i (rg_any _))) (rgL_c (v := 4) (lo := 4) (hi := 4) (by decide)))))) (by decide))]; omega) hT hF fr_rf hP hD hS (lv_sub hl [0, 1, 2, 3] rfl)
    · refine lv_aload_n hx hb dX7_feed_31 rfl (lv_at hl 0 rfl) ?_
      refine lv_bipush (v := (-6)) hx hb dX7_feed_32 (by decide) ?_
      refine tm_V (As := [.int (-6)]) (rest := []) ⟨hx, hb, hml, hown, htg⟩ (c_X7_refuse l D E G _ a C n hn hT ((-6) : Int32) (rg_w (rg_c (v := (-6)) (lo := (-6)) (hi := (-6)) (by decide)) (by decide))) (cwV 1 htg (oh_gV q_1071 q_1073 q_29 q_73 q_1074) rfl rfl rfl pdVX7_refuse ⟨Nat.le_of_ble_eq_true rfl, Nat.le_of_ble_eq_true rfl⟩) hK hP hD hG hS hA (va_recv hK hP (ci := 7) (q0 := 0) rfl (oh_wg (Nat.lt_of_lt_of_le (by decide) hn) (sM_0 hT))) rfl hl.1 rfl (Nat.le_of_ble_eq_true rfl) dX7_feed_34 ⟨Nat.le_of_ble_eq_true rfl, Nat.le_of_ble_eq_true rfl⟩ (fun r_15 C_16 H locs hq_17 hP hD hS => ?_)
      obtain ⟨hT, f_18, hq_17⟩ := hq_17
      have hF := fr_tr hF f_18 (by decide) (by decide)
      refine W.widen (k := 0) (n := 0) (Nat.le_refl _) (Nat.le_refl _) ?_
      have t_19 := hT
      rw [hQ]
      exact W.iret (v := r_15) hx hb hr (fun t ht hW => ⟨⟨r_15, C_16, rfl, ⟨hT, hF, ⟨⟨hR.1.fr hF (by decide), hR.2.fr hF (by decide)⟩, (oh_fd2 hq_17 (oh_rgI (p := 1) (q := 4) (rg_w (lo := 1) (hi := 4) (rg_il (rgL_i (rg_il (rnL_leu u_4.2 (rnL_lel u_4.1 (rgL_c (v := 1) (lo := 1) (hi := 1) (by decide)) (rgL_i (rg_any _))) (rgL_c (v := 4) (lo := 4) (hi := 4) (by decide)))))) (by decide))).1 (oh_rgI (p := 1) (q := 4) (rg_w (lo := 1) (hi := 4) (rg_il (rgL_i (rg_il (rnL_leu u_4.2 (rnL_lel u_4.1 (rgL_c (v := 1) (lo := 1) (hi := 1) (by decide)) (rgL_i (rg_any _))) (rgL_c (v := 4) (lo := 4) (hi := 4) (by decide)))))) (by decide))).2 (oh_flt (fM_0_7 hT0) (rg_w (lo := 1) (hi := 4) (rg_il (rgL_i (rg_il (rnL_leu u_4.2 (rnL_lel u_4.1 (rgL_c (v := 1) (lo := 1) (hi := 1) (by decide)) (rgL_i (rg_any _))) (rgL_c (v := 4) (lo := 4) (hi := 4) (by decide)))))) (by decide)) (Int32.not_le.mp c_5))), (oh_fz2 (congrArg vi (f_18.2 7 (by decide))) (oh_rgI (p := 1) (q := 4) (rg_w (lo := 1) (hi := 4) (rg_il (rgL_i (rg_il (rnL_leu u_4.2 (rnL_lel u_4.1 (rgL_c (v := 1) (lo := 1) (hi := 1) (by decide)) (rgL_i (rg_any _))) (rgL_c (v := 4) (lo := 4) (hi := 4) (by decide)))))) (by decide))).1 (oh_rgI (p := 1) (q := 4) (rg_w (lo := 1) (hi := 4) (rg_il (rgL_i (rg_il (rnL_leu u_4.2 (rnL_lel u_4.1 (rgL_c (v := 1) (lo := 1) (hi := 1) (by decide)) (rgL_i (rg_any _))) (rgL_c (v := 4) (lo := 4) (hi := 4) (by decide)))))) (by decide))).2 (oh_flt (fM_0_7 hT0) (rg_w (lo := 1) (hi := 4) (rg_il (rgL_i (rg_il (rnL_leu u_4.2 (rnL_lel u_4.1 (rgL_c (v := 1) (lo := 1) (hi := 1) (by decide)) (rgL_i (rg_any _))) (rgL_c (v := 4) (lo := 4) (hi := 4) (by decide)))))) (by decide)) (Int32.not_le.mp c_5)))⟩⟩, ⟨by rw [ht]; exact hP, hD⟩⟩, hS.F ht⟩) hS.2.2 dX7_feed_37
  · have u_20 := hq_2.2.2 c_3
    refine lv_aload_n hx hb dX7_feed_12 rfl (lv_at hl 0 rfl) ?_
    refine lv_bipush (v := (-2)) hx hb dX7_feed_13 (by decide) ?_
    refine tm_V (As := [.int (-2)]) (rest := []) ⟨hx, hb, hml, hown, htg⟩ (c_X7_refuse l D E G _ a C n hn hT ((-2) : Int32) (rg_w (rg_c (v := (-2)) (lo := (-2)) (hi := (-2)) (by decide)) (by decide))) (cwV 1 htg (oh_gV q_1071 q_1073 q_29 q_73 q_1074) rfl rfl rfl pdVX7_refuse ⟨Nat.le_of_ble_eq_true rfl, Nat.le_of_ble_eq_true rfl⟩) hK hP hD hG hS hA (va_recv hK hP (ci := 7) (q0 := 0) rfl (oh_wg (Nat.lt_of_lt_of_le (by decide) hn) (sM_0 hT))) rfl hl.1 rfl (Nat.le_of_ble_eq_true rfl) dX7_feed_15 ⟨Nat.le_of_ble_eq_true rfl, Nat.le_of_ble_eq_true rfl⟩ (fun r_21 C_22 H locs hq_23 hP hD hS => ?_)
    obtain ⟨hT, f_24, hq_23⟩ := hq_23
    have hF := fr_tr hF f_24 (by decide) (by decide)
    refine W.widen (k := 0) (n := 0) (Nat.le_refl _) (Nat.le_refl _) ?_
    have t_25 := hT
    rw [hQ]
    exact W.iret (v := r_21) hx hb hr (fun t ht hW => ⟨⟨r_21, C_22, rfl, ⟨hT, hF, ⟨⟨hR.1.fr hF (by decide), hR.2.fr hF (by decide)⟩, (oh_fd1 hq_23 (oh_in64 (l' := 1) (k' := 4) rfl rfl u_20)), (oh_fz1 (congrArg vi (f_24.2 7 (by decide))) (oh_in64 (l' := 1) (k' := 4) rfl rfl u_20))⟩⟩, ⟨by rw [ht]; exact hP, hD⟩⟩, hS.F ht⟩) hS.2.2 dX7_feed_18
