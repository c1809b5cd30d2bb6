set_option maxHeartbeats 4000000 in
set_option maxRecDepth 100000 in
theorem e_X7_read (l : Launch) (D : va_G) (E : Nat → ClassId) (G : Nat → Nat) (sz : Nat) (a : Nat → Nat) (C : Nat → va_E) (n : Nat) (hn : 74 ≤ n) (hT : TyM a E C) (hR : RelW C) : Met l yX7_read (oh_w yX7_read cX7_read 1 (some .boolean)) ({ frames := 9, cells := 0, slots := 0, locals := 199 }) (oh_Pm D E G [.ref (a 0)] (oh_W n a C) sz) (va_Qi (fun r (u : Nat → va_E) => TyM a E u ∧ fr [(13, 14), (24, 48), (48, 64), (64, 69), (69, 74)] [9, 11, 13, 15, 21, 22, 23, 24, 25, 26] C u ∧ (r = 0 ∨ r = 1) ∧ (RelW u) ∧ ((gi (C 0) 13).toInt ≤ (gi (u 0) 13).toInt) ∧ (∀ A0 : LA, absM C A0 → RelMr (rdTot (ga (C 7)) (gi (C 0) 7) A0) A0 r u)) (oh_B D (va_A (oh_W n a C) sz) (fun u => oh_W n a u)) (va_A (oh_W n a C) sz)) 0 0 (va_A (oh_W n a C) sz) := by
  refine Met.ofW (cc := cX7_read) (maxL := 1) (ret := (some .boolean)) (by decide) rfl ?_
  intro p e s m args below meth c s₁ B hml hv
  obtain ⟨rfl, hsz, hP, hK, hD0, hG⟩ := hv
  have hx := B.exec
  have hb := B.bytes
  have hr := B.returns
  have hts := atoms_spec (ws := (oh_w yX7_read cX7_read 1 (some .boolean))) B.pre
  have htg : ∀ w ∈ oh_t, w.before _ s = true := fun w h => hts w (List.mem_cons_of_mem _ h)
  have hown : s.vm.findClass RX7 = some m.cls := findClass_of_methodNamed B.named
  have hlocks := B.notSynchronized
  have hT0 := hT
  subst hsz
  have hD := hD0.self (sz := s.heap.size)
  generalize hAe : va_A (oh_W n a C) s.heap.size = A at hD hG ⊢
  have hA : ∀ q : Nat, s.heap.size ≤ q → A q := fun q h => by rw [← hAe]; exact Or.inr h
  have hS : va_S A s.heap s.heap [] := va_S.rf
  have hF : fr [(13, 14), (24, 48), (48, 64), (64, 69), (69, 74)] [9, 11, 13, 15, 21, 22, 23, 24, 25, 26] C C := fr_rf
  have hl := lv_entry ([.ref (a 0)]) (n := 1) (Nat.le_of_ble_eq_true rfl)
  rw [lg_entry_eq]
  generalize (lg_sl ([.ref (a 0)]) ++ List.replicate (1 - (lg_sl ([.ref (a 0)])).length) Slot.unset).toArray = ls at hl ⊢
  have hl : lv_has ls 1 [(0, .ref (a 0))] := hl
  refine oh_genQ (fun Q hQ => ?_)
  refine lv_aload_n hx hb dX7_read_0 rfl (lv_at hl 0 rfl) ?_
  refine lv_iconst (v := 1) hx hb dX7_read_1 (by decide) ?_
  refine th_put (Tp := TyM a E) (Rl := fr [(13, 14), (24, 48), (48, 64), (64, 69), (69, 74)] [9, 11, 13, 15, 21, 22, 23, 24, 25, 26] C) (ci := 7) (v := .int 1) (ty := .int) (CC := RX7) (T := TX7) (N := 29) hx hb htg ig_7 tyX7 tyX7_ok nmX7 hown hK hP hD hS 0 (Nat.lt_of_lt_of_le (by decide) hn) (sM_0 hT) rfl 26 (by decide) (htg _ q_999) (fun _ h9 => h9) rfl (by decide +kernel) rfl rfl (Nat.le_of_ble_eq_true rfl) (hT.up 0 (by decide) ⟨rfl, (fM_0_7 hT), (fM_0_9 hT), (fM_0_11 hT), (fM_0_13 hT), (fM_0_15 hT), (fM_0_21 hT), (fM_0_23 hT)⟩) (fr_fd hF (sM_0 hT) (by decide)) dX7_read_2 (fun C_1 H locs e_2 hT hF hP hD hS => ?_)
  have t_3 := hT
  refine lv_aload_n hx hb dX7_read_5 rfl (lv_at hl 0 rfl) ?_
  refine lv_iconst (v := 0) hx hb dX7_read_6 (by decide) ?_
  refine th_put (Tp := TyM a E) (Rl := fr [(13, 14), (24, 48), (48, 64), (64, 69), (69, 74)] [9, 11, 13, 15, 21, 22, 23, 24, 25, 26] C) (ci := 7) (v := .int 0) (ty := .int) (CC := RX7) (T := TX7) (N := 29) hx hb htg ig_7 tyX7 tyX7_ok nmX7 hown hK hP hD hS 0 (Nat.lt_of_lt_of_le (by decide) hn) (sM_0 hT) rfl 21 (by decide) (htg _ q_994) (fun _ h9 => h9) rfl (by decide +kernel) rfl rfl (Nat.le_of_ble_eq_true rfl) (hT.up 0 (by decide) ⟨rfl, (fM_0_7 hT), (fM_0_9 hT), (fM_0_11 hT), (fM_0_13 hT), (fM_0_15 hT), (rg_w (rg_c (v := 0) (lo := 0) (hi := 0) (by decide)) (by decide)), (fM_0_23 hT)⟩) (fr_fd hF (sM_0 hT) (by decide)) dX7_read_7 (fun C_4 H locs e_5 hT hF hP hD hS => ?_)
  have t_6 := hT
  refine lv_aload_n hx hb dX7_read_10 rfl (lv_at hl 0 rfl) ?_
  have : (gi (C_1 0) 21).toInt = (gi (C 0) 21).toInt := congrArg Int32.toInt (show gi (C_1 0) 21 = gi (C 0) 21 by rw [e_2]; rfl)
  have : (gi (C_1 0) 7).toInt = (gi (C 0) 7).toInt := congrArg Int32.toInt (show gi (C_1 0) 7 = gi (C 0) 7 by rw [e_2]; rfl)
  have : (gi (C_1 0) 23).toInt = (gi (C 0) 23).toInt := congrArg Int32.toInt (show gi (C_1 0) 23 = gi (C 0) 23 by rw [e_2]; rfl)
  have : (gi (C_1 0) 13).toInt = (gi (C 0) 13).toInt := congrArg Int32.toInt (show gi (C_1 0) 13 = gi (C 0) 13 by rw [e_2]; rfl)
  have : (gi (C_4 0) 21).toInt = (0 : Int32).toInt := congrArg Int32.toInt (show gi (C_4 0) 21 = 0 by rw [e_5]; rfl)
  have : (0 : Int32).toInt = 0 := rfl
  have : (gi (C_4 0) 7).toInt = (gi (C_1 0) 7).toInt := congrArg Int32.toInt (show gi (C_4 0) 7 = gi (C_1 0) 7 by rw [e_5]; rfl)
  have : (gi (C_4 0) 23).toInt = (gi (C_1 0) 23).toInt := congrArg Int32.toInt (show gi (C_4 0) 23 = gi (C_1 0) 23 by rw [e_5]; rfl)
  have : (gi (C_4 0) 13).toInt = (gi (C_1 0) 13).toInt := congrArg Int32.toInt (show gi (C_4 0) 13 = gi (C_1 0) 13 by rw [e_5]; rfl)
  have : 0 ≤ (gi (C 0) 21).toInt ∧ (gi (C 0) 21).toInt ≤ 250 := fM_0_21 hT0
  have : 0 ≤ (gi (C 0) 7).toInt ∧ (gi (C 0) 7).toInt ≤ 250 := fM_0_7 hT0
  have : 0 ≤ (gi (C 0) 23).toInt ∧ (gi (C 0) 23).toInt ≤ 250 := fM_0_23 hT0
  have : 0 ≤ (gi (C 0) 13).toInt ∧ (gi (C 0) 13).toInt ≤ 5 := fM_0_13 hT0
  have : 0 ≤ (gi (C_1 0) 21).toInt ∧ (gi (C_1 0) 21).toInt ≤ 250 := fM_0_21 t_3
  have : 0 ≤ (gi (C_1 0) 7).toInt ∧ (gi (C_1 0) 7).toInt ≤ 250 := fM_0_7 t_3
  have : 0 ≤ (gi (C_1 0) 23).toInt ∧ (gi (C_1 0) 23).toInt ≤ 250 := fM_0_23 t_3
  have : 0 ≤ (gi (C_1 0) 13).toInt ∧ (gi (C_1 0) 13).toInt ≤ 5 := fM_0_13 t_3
  have : 0 ≤ (gi (C_4 0) 21).toInt ∧ (gi (C_4 0) 21).toInt ≤ 250 := fM_0_21 t_6
  have : 0 ≤ (gi (C_4 0) 7).toInt ∧ (gi (C_4 0) 7).toInt ≤ 250 := fM_0_7 t_6
  have : 0 ≤ (gi (C_4 0) 23).toInt ∧ (gi (C_4 0) 23).toInt ≤ 250 := fM_0_23 t_6
  have : 0 ≤ (gi (C_4 0) 13).toInt ∧ (gi (C_4 0) 13).toInt ≤ 5 := fM_0_13 t_6
  refine tm_Vv (As := []) (rest := []) ⟨hx, hb, hml, hown, htg⟩ (e_X7_look l D E G _ a C_4 n hn hT (by omega)) (cwV 0 htg (oh_gV q_1197 q_1199 q_39 q_73 q_1200) rfl rfl rfl pdVX7_look ⟨Nat.le_of_ble_eq_true rfl, Nat.le_of_ble_eq_true rfl⟩) hK hP hD hG hS hA (va_recv hK hP (ci := 7) (q0 := 0) rfl (oh_wg (Nat.lt_of_lt_of_le (by decide) hn) (sM_0 hT))) rfl hl.1 rfl (Nat.le_of_ble_eq_true rfl) dX7_read_11 ⟨Nat.le_of_ble_eq_true rfl, Nat.le_of_ble_eq_true rfl⟩ (fun C_8 H locs hq_9 hP hD hS => ?_)
  obtain ⟨hT, f_10, hq_9⟩ := hq_9
  have hF := fr_tr hF f_10 (by decide) (by decide)
  refine W.widen (k := 0) (n := 0) (Nat.le_refl _) (Nat.le_refl _) ?_
  have t_11 := hT
  have ep_12 := hq_9.2.1
  rw [show ga (C_4 7) = ga (C 7) from congrArg ga (Eq.trans (th_un e_5 (by decide)) (th_un e_2 (by decide)))] at ep_12
  refine lv_aload_n hx hb dX7_read_14 rfl (lv_at hl 0 rfl) ?_
  have : (gi (C_8 0) 7).toInt = (gi (C_4 0) 7).toInt := congrArg (fun z => (vi z).toInt) (f_10.2 7 (by decide))
  have : (gi (C_8 0) 13).toInt = (gi (C_4 0) 13).toInt := congrArg (fun z => (vi z).toInt) (f_10.2 13 (by decide))
  have : 0 ≤ (gi (C_8 0) 21).toInt ∧ (gi (C_8 0) 21).toInt ≤ 250 := fM_0_21 t_11
  have : 0 ≤ (gi (C_8 0) 7).toInt ∧ (gi (C_8 0) 7).toInt ≤ 250 := fM_0_7 t_11
  have : 0 ≤ (gi (C_8 0) 23).toInt ∧ (gi (C_8 0) 23).toInt ≤ 250 := fM_0_23 t_11
  have : 0 ≤ (gi (C_8 0) 13).toInt ∧ (gi (C_8 0) 13).toInt ≤ 5 := fM_0_13 t_11
  refine tm_V (As := []) (rest := []) ⟨hx, hb, hml, hown, htg⟩ (e_X7_statement l D E G _ a C_8 n hn hT (by omega) (RelW.fr (RelW.fr (RelW.fr hR (fr_fde (mc := []) (mf := [26]) fr_rf e_2 (sM_0 hT0) (by decide)) (by decide)) (fr_fde (mc := []) (mf := [21]) fr_rf e_5 (sM_0 t_3) (by decide)) (by decide)) f_10 (by decide)) (fgL hq_9.2.2 (f_10.1 7 rfl (by decide))) (by omega)) (cwV 0 htg (oh_gV q_1210 q_1212 q_40 q_73 q_1213) rfl rfl rfl pdVX7_statement ⟨Nat.le_of_ble_eq_true rfl, Nat.le_of_ble_eq_true rfl⟩) hK hP hD hG hS hA (va_recv hK hP (ci := 7) (q0 := 0) rfl (oh_wg (Nat.lt_of_lt_of_le (by decide) hn) (sM_0 hT))) rfl hl.1 rfl (Nat.le_of_ble_eq_true rfl) dX7_read_15 ⟨Nat.le_of_ble_eq_true rfl, Nat.le_of_ble_eq_true rfl⟩ (fun r_13 C_14 H locs hq_15 hP hD hS => ?_)
  obtain ⟨hT, f_16, hq_15⟩ := hq_15
  have hF := fr_tr hF f_16 (by decide) (by decide)
  refine W.widen (k := 0) (n := 0) (Nat.le_refl _) (Nat.le_refl _) ?_
  have t_17 := hT
  refine lv_if_ne (tgt := 23) hx hb dX7_read_18 (by decide) (fun (c_18 : ¬ (r_13 = 0)) => ?_) (fun (c_18 : r_13 = 0) => ?_)
  · have u_19 := hq_15.2.2.1 c_18
    have L_23 : ∀ (d : Nat) (K23 : Nat → va_E) (H : Heap) (locs : List Loc) (ls : Array Slot), (250 - (gi (K23 0) 21).toInt).toNat = d → ((gi (K23 0) 21).toInt ≤ (gi (K23 0) 7).toInt ∧ (gi (C 0) 13).toInt ≤ (gi (K23 0) 13).toInt) → (RelW K23) → (FG K23 ∧ (gi (K23 0) 23).toInt ≤ (gi (K23 0) 21).toInt) → (1 ≤ (gi (K23 0) 26).toInt ∧ 3 * (gi (K23 0) 26).toInt ≤ (gi (K23 0) 21).toInt) → (∀ A0 : LA, absM C A0 → MLp (ga (C 7)) (gi (C 0) 7) A0 K23) → TyM a E K23 → fr [(13, 14), (24, 48), (48, 64), (64, 69), (69, 74)] [9, 11, 13, 15, 21, 22, 23, 24, 25, 26] C K23 → fr [(13, 14), (24, 48), (48, 64), (64, 69), (69, 74)] [9, 11, 13, 15, 21, 22, 23, 24, 25, 26] C_14 K23 → va_P D vwCl (oh_W n a K23) H → va_D A (oh_W n a K23) → va_S A s.heap H locs → lv_has ls 1 [(0, .ref (a 0))] → W p l e ({ frames := 9, cells := 0, slots := 0, locals := 199 }) s m (([.ref (a 0)] : List Value).toArray) below meth c H locs 0 0 Q (F0 m 23 ls []) := by
      intro d
      induction d using Nat.strongRecOn with
      | ind d ih_23 =>
      intro K23  H locs ls hd_23 hv_23 hr_23 hf_23 hk_23 hm_23 hT hF hLF_23 hP hD hS hl
      have t_20 := hT
      have hk26_23 : rg (gi (K23 0) 26) 1 83 := ⟨hk_23.1, by have h7 := hk_23.2; have h8 := (fM_0_21 hT).2; omega⟩
      refine lv_aload_n hx hb dX7_read_23 rfl (lv_at hl 0 rfl) ?_
      refine va_get (D := D) (ci := 7) (v := .int (gi (K23 0) 22)) (C := RX7) (T := TX7) (N := 29) hx hb htg ig_7 hown hK hP 0 (oh_wg (Nat.lt_of_lt_of_le (by decide) hn) (sM_0 hT)) rfl 22 (by decide) (htg _ q_995) (fun _ h9 => h9) rfl dX7_read_24 ?_
      refine lv_if_eq (tgt := 69) hx hb dX7_read_27 (by decide) (fun (c_21 : (gi (K23 0) 22) = 0) => ?_) (fun (c_21 : ¬ ((gi (K23 0) 22) = 0)) => ?_)
      · refine lv_iconst (v := 1) hx hb dX7_read_69 (by decide) ?_
        have : (gi (C_14 0) 7).toInt = (gi (C_8 0) 7).toInt := congrArg (fun z => (vi z).toInt) (f_16.2 7 (by decide))
        have : (gi (K23 0) 7).toInt = (gi (C_14 0) 7).toInt := congrArg (fun z => (vi z).toInt) (hLF_23.2 7 (by decide))
        have : 0 ≤ (gi (C_14 0) 21).toInt ∧ (gi (C_14 0) 21).toInt ≤ 250 := fM_0_21 t_17
        have : 0 ≤ (gi (C_14 0) 7).toInt ∧ (gi (C_14 0) 7).toInt ≤ 250 := fM_0_7 t_17
        have : 0 ≤ (gi (C_14 0) 23).toInt ∧ (gi (C_14 0) 23).toInt ≤ 250 := fM_0_23 t_17
        have : 0 ≤ (gi (C_14 0) 13).toInt ∧ (gi (C_14 0) 13).toInt ≤ 5 := fM_0_13 t_17
        have : 0 ≤ (gi (K23 0) 21).toInt ∧ (gi (K23 0) 21).toInt ≤ 250 := fM_0_21 t_20
        have : 0 ≤ (gi (K23 0) 7).toInt ∧ (gi (K23 0) 7).toInt ≤ 250 := fM_0_7 t_20
        have : 0 ≤ (gi (K23 0) 23).toInt ∧ (gi (K23 0) 23).toInt ≤ 250 := fM_0_23 t_20
        have : 0 ≤ (gi (K23 0) 13).toInt ∧ (gi (K23 0) 13).toInt ≤ 5 := fM_0_13 t_20
        rw [hQ]
        exact W.zret (v := 1) (ty := .boolean) hx hb hr (by decide) (fun t ht hW => ⟨⟨1, K23, rfl, ⟨hT, hF, ⟨(Or.inr rfl), hr_23, (by omega), (fun A0 hA => ⟨fun _ => ML_ok (hm_23 A0 hA) c_21, fun h9 => absurd h9 (by decide)⟩)⟩⟩, ⟨by rw [ht]; exact hP, hD⟩⟩, hS.F ht⟩) hS.2.2 dX7_read_70
      · refine lv_aload_n hx hb dX7_read_30 rfl (lv_at hl 0 rfl) ?_
        refine va_get (D := D) (ci := 7) (v := .int (gi (K23 0) 22)) (C := RX7) (T := TX7) (N := 29) hx hb htg ig_7 hown hK hP 0 (oh_wg (Nat.lt_of_lt_of_le (by decide) hn) (sM_0 hT)) rfl 22 (by decide) (htg _ q_995) (fun _ h9 => h9) rfl dX7_read_31 ?_
        refine lv_iconst (v := 3) hx hb dX7_read_34 (by decide) ?_
        refine lv_icmp_eq (tgt := 43) hx hb dX7_read_35 (by decide) (fun (c_22 : (gi (K23 0) 22) = 3) => ?_) (fun (c_22 : ¬ ((gi (K23 0) 22) = 3)) => ?_)
        · refine lv_aload_n hx hb dX7_read_43 rfl (lv_at hl 0 rfl) ?_
          have : (gi (C_14 0) 7).toInt = (gi (C_8 0) 7).toInt := congrArg (fun z => (vi z).toInt) (f_16.2 7 (by decide))
          have : (gi (K23 0) 7).toInt = (gi (C_14 0) 7).toInt := congrArg (fun z => (vi z).toInt) (hLF_23.2 7 (by decide))
          have : 0 ≤ (gi (C_14 0) 21).toInt ∧ (gi (C_14 0) 21).toInt ≤ 250 := fM_0_21 t_17
          have : 0 ≤ (gi (C_14 0) 7).toInt ∧ (gi (C_14 0) 7).toInt ≤ 250 := fM_0_7 t_17
          have : 0 ≤ (gi (C_14 0) 23).toInt ∧ (gi (C_14 0) 23).toInt ≤ 250 := fM_0_23 t_17
          have : 0 ≤ (gi (C_14 0) 13).toInt ∧ (gi (C_14 0) 13).toInt ≤ 5 := fM_0_13 t_17
          have : 0 ≤ (gi (K23 0) 21).toInt ∧ (gi (K23 0) 21).toInt ≤ 250 := fM_0_21 t_20
          have : 0 ≤ (gi (K23 0) 7).toInt ∧ (gi (K23 0) 7).toInt ≤ 250 := fM_0_7 t_20
          have : 0 ≤ (gi (K23 0) 23).toInt ∧ (gi (K23 0) 23).toInt ≤ 250 := fM_0_23 t_20
          have : 0 ≤ (gi (K23 0) 13).toInt ∧ (gi (K23 0) 13).toInt ≤ 5 := fM_0_13 t_20
          have : ¬ (gi (K23 0) 22).toInt = (0 : Int32).toInt := fun h7 => c_21 (Int32.toInt_inj.mp h7)
          have : (3 : Int32).toInt = 3 := rfl
          refine tm_Vv (As := []) (rest := []) ⟨hx, hb, hml, hown, htg⟩ (e_X7_look l D E G _ a K23 n hn hT (by omega)) (cwV 0 htg (oh_gV q_1197 q_1199 q_39 q_73 q_1200) rfl rfl rfl pdVX7_look ⟨Nat.le_of_ble_eq_true rfl, Nat.le_of_ble_eq_true rfl⟩) hK hP hD hG hS hA (va_recv hK hP (ci := 7) (q0 := 0) rfl (oh_wg (Nat.lt_of_lt_of_le (by decide) hn) (sM_0 hT))) rfl hl.1 rfl (Nat.le_of_ble_eq_true rfl) dX7_read_44 ⟨Nat.le_of_ble_eq_true rfl, Nat.le_of_ble_eq_true rfl⟩ (fun C_24 H locs hq_25 hP hD hS => ?_)
          obtain ⟨hT, f_26, hq_25⟩ := hq_25
          have hF := fr_tr hF f_26 (by decide) (by decide)
          refine W.widen (k := 0) (n := 0) (Nat.le_refl _) (Nat.le_refl _) ?_
          have t_27 := hT
          have ep_28 := hq_25.2.1
          rw [show ga (K23 7) = ga (C 7) from congrArg ga (Eq.trans (hLF_23.1 7 rfl (by decide)) (Eq.trans (f_16.1 7 rfl (by decide)) (Eq.trans (f_10.1 7 rfl (by decide)) (Eq.trans (th_un e_5 (by decide)) (th_un e_2 (by decide))))))] at ep_28
          refine lv_aload_n hx hb dX7_read_47 rfl (lv_at hl 0 rfl) ?_
          have : (gi (C_24 0) 7).toInt = (gi (K23 0) 7).toInt := congrArg (fun z => (vi z).toInt) (f_26.2 7 (by decide))
          have : (gi (C_24 0) 13).toInt = (gi (K23 0) 13).toInt := congrArg (fun z => (vi z).toInt) (f_26.2 13 (by decide))
          have : 0 ≤ (gi (C_24 0) 21).toInt ∧ (gi (C_24 0) 21).toInt ≤ 250 := fM_0_21 t_27
          have : 0 ≤ (gi (C_24 0) 7).toInt ∧ (gi (C_24 0) 7).toInt ≤ 250 := fM_0_7 t_27
          have : 0 ≤ (gi (C_24 0) 23).toInt ∧ (gi (C_24 0) 23).toInt ≤ 250 := fM_0_23 t_27
          have : 0 ≤ (gi (C_24 0) 13).toInt ∧ (gi (C_24 0) 13).toInt ≤ 5 := fM_0_13 t_27
          refine tm_V (As := []) (rest := []) ⟨hx, hb, hml, hown, htg⟩ (e_X7_statement l D E G _ a C_24 n hn hT (by omega) (RelW.fr hr_23 f_26 (by decide)) (fgL hq_25.2.2 (f_26.1 7 rfl (by decide))) (by omega)) (cwV 0 htg (oh_gV q_1210 q_1212 q_40 q_73 q_1213) rfl rfl rfl pdVX7_statement ⟨Nat.le_of_ble_eq_true rfl, Nat.le_of_ble_eq_true rfl⟩) hK hP hD hG hS hA (va_recv hK hP (ci := 7) (q0 := 0) rfl (oh_wg (Nat.lt_of_lt_of_le (by decide) hn) (sM_0 hT))) rfl hl.1 rfl (Nat.le_of_ble_eq_true rfl) dX7_read_48 ⟨Nat.le_of_ble_eq_true rfl, Nat.le_of_ble_eq_true rfl⟩ (fun r_29 C_30 H locs hq_31 hP hD hS => ?_)
          obtain ⟨hT, f_32, hq_31⟩ := hq_31
          have hF := fr_tr hF f_32 (by decide) (by decide)
          refine W.widen (k := 0) (n := 0) (Nat.le_refl _) (Nat.le_refl _) ?_
          have t_33 := hT
          refine lv_if_ne (tgt := 56) hx hb dX7_read_51 (by decide) (fun (c_34 : ¬ (r_29 = 0)) => ?_) (fun (c_34 : r_29 = 0) => ?_)
          · have u_35 := hq_31.2.2.1 c_34
            refine lv_aload_n hx hb dX7_read_56 rfl (lv_at hl 0 rfl) ?_
            refine lv_dup hx hb dX7_read_57 rfl ?_
            refine va_get (D := D) (ci := 7) (v := .int (gi (K23 0) 26)) (C := RX7) (T := TX7) (N := 29) hx hb htg ig_7 hown hK hP 0 (oh_wg (Nat.lt_of_lt_of_le (by decide) hn) (sM_0 hT)) rfl 26 (by decide) (htg _ q_999) (fun _ h9 => h9) (oh_fv (c := C_30 0) (j := 26) rfl (Eq.trans (congrArg vi (f_32.2 26 (by decide))) (congrArg vi (f_26.2 26 (by decide))))) dX7_read_58 ?_
            refine lv_iconst (v := 1) hx hb dX7_read_61 (by decide) ?_
            refine lv_iadd hx hb dX7_read_62 ?_
            refine th_put (Tp := TyM a E) (Rl := fr [(13, 14), (24, 48), (48, 64), (64, 69), (69, 74)] [9, 11, 13, 15, 21, 22, 23, 24, 25, 26] C) (ci := 7) (v := .int ((gi (K23 0) 26) + 1)) (ty := .int) (CC := RX7) (T := TX7) (N := 29) hx hb htg ig_7 tyX7 tyX7_ok nmX7 hown hK hP hD hS 0 (Nat.lt_of_lt_of_le (by decide) hn) (sM_0 hT) rfl 26 (by decide) (htg _ q_999) (fun _ h9 => h9) rfl (by decide +kernel) rfl rfl (Nat.le_of_ble_eq_true rfl) (hT.up 0 (by decide) ⟨rfl, (fM_0_7 hT), (fM_0_9 hT), (fM_0_11 hT), (fM_0_13 hT), (fM_0_15 hT), (fM_0_21 hT), (fM_0_23 hT)⟩) (fr_fd hF (sM_0 hT) (by decide)) dX7_read_63 (fun C_36 H locs e_37 hT hF hP hD hS => ?_)
            have t_38 := hT
            refine lv_goto (tgt := 23) hx hb dX7_read_66 (by decide) ?_
            have : (gi (C_30 0) 7).toInt = (gi (C_24 0) 7).toInt := congrArg (fun z => (vi z).toInt) (f_32.2 7 (by decide))
            have : (gi (C_36 0) 21).toInt = (gi (C_30 0) 21).toInt := congrArg Int32.toInt (show gi (C_36 0) 21 = gi (C_30 0) 21 by rw [e_37]; rfl)
            have : (gi (C_36 0) 7).toInt = (gi (C_30 0) 7).toInt := congrArg Int32.toInt (show gi (C_36 0) 7 = gi (C_30 0) 7 by rw [e_37]; rfl)
            have : (gi (C_36 0) 23).toInt = (gi (C_30 0) 23).toInt := congrArg Int32.toInt (show gi (C_36 0) 23 = gi (C_30 0) 23 by rw [e_37]; rfl)
            have : (gi (C_36 0) 13).toInt = (gi (C_30 0) 13).toInt := congrArg Int32.toInt (show gi (C_36 0) 13 = gi (C_30 0) 13 by rw [e_37]; rfl)
            have : 0 ≤ (gi (C_30 0) 21).toInt ∧ (gi (C_30 0) 21).toInt ≤ 250 := fM_0_21 t_33
            have : 0 ≤ (gi (C_30 0) 7).toInt ∧ (gi (C_30 0) 7).toInt ≤ 250 := fM_0_7 t_33
            have : 0 ≤ (gi (C_30 0) 23).toInt ∧ (gi (C_30 0) 23).toInt ≤ 250 := fM_0_23 t_33
            have : 0 ≤ (gi (C_30 0) 13).toInt ∧ (gi (C_30 0) 13).toInt ≤ 5 := fM_0_13 t_33
            have : 0 ≤ (gi (C_36 0) 21).toInt ∧ (gi (C_36 0) 21).toInt ≤ 250 := fM_0_21 t_38
            have : 0 ≤ (gi (C_36 0) 7).toInt ∧ (gi (C_36 0) 7).toInt ≤ 250 := fM_0_7 t_38
            have : 0 ≤ (gi (C_36 0) 23).toInt ∧ (gi (C_36 0) 23).toInt ≤ 250 := fM_0_23 t_38
            have : 0 ≤ (gi (C_36 0) 13).toInt ∧ (gi (C_36 0) 13).toInt ≤ 5 := fM_0_13 t_38
            have hms_39 := hq_31.2.2.2.2.2.1
            rw [show ga (C_24 7) = ga (C 7) from congrArg ga (Eq.trans (f_26.1 7 rfl (by decide)) (Eq.trans (hLF_23.1 7 rfl (by decide)) (Eq.trans (f_16.1 7 rfl (by decide)) (Eq.trans (f_10.1 7 rfl (by decide)) (Eq.trans (th_un e_5 (by decide)) (th_un e_2 (by decide)))))))] at hms_39
            exact ih_23 _ (hd_23 ▸ (by omega)) C_36  _ _ ls rfl (by omega) (RelW.fr hq_31.2.2.2.1 (fr_fde (mc := []) (mf := [26]) fr_rf e_37 (sM_0 t_33) (by decide)) (by decide)) ⟨(fgF (j := 26) hq_31.2.2.2.2.2.2.1 e_37 (sM_0 t_33) (by decide)), (by omega)⟩ ⟨by rw [show gi (C_36 0) 26 = (gi (K23 0) 26) + 1 from (show gi (C_36 0) 26 = ((gi (K23 0) 26) + 1) by rw [e_37]; rfl), oh_incr hk26_23 (by decide)]; have h7 := hk_23.1; omega, by rw [show gi (C_36 0) 26 = (gi (K23 0) 26) + 1 from (show gi (C_36 0) 26 = ((gi (K23 0) 26) + 1) by rw [e_37]; rfl), oh_incr hk26_23 (by decide)]; have h7 := hk_23.2; omega⟩ (fun A0 hA => ML_s t_20 (hm_23 A0 hA) c_21 c_22 (rg_w hk26_23 (by decide)) ep_28 (fun A h7 => absM_fr h7 t_20 (show fr [] [21, 22, 23, 24] K23 C_24 from (fr_tr fr_rf f_26 (by decide) (by decide))) (by decide) (by decide) (by decide)) hms_39 c_34 (fun A h7 => absM_fr h7 t_33 (show fr [] [26] C_30 C_36 from (fr_fde fr_rf e_37 (sM_0 t_33) (by decide))) (by decide) (by decide) (by decide)) (pm_fd (j := 26) e_37 (sM_0 t_33) (by decide)) (show gi (C_36 0) 26 = ((gi (K23 0) 26) + 1) by rw [e_37]; rfl)) hT hF (fr_fde (fr_tr (fr_tr hLF_23 f_26 (by decide) (by decide)) f_32 (by decide) (by decide)) e_37 (sM_0 t_33) (by decide)) hP hD hS (lv_sub hl [0] rfl)
          · refine lv_iconst (v := 0) hx hb dX7_read_54 (by decide) ?_
            have : (gi (C_30 0) 7).toInt = (gi (C_24 0) 7).toInt := congrArg (fun z => (vi z).toInt) (f_32.2 7 (by decide))
            have : 0 ≤ (gi (C_30 0) 21).toInt ∧ (gi (C_30 0) 21).toInt ≤ 250 := fM_0_21 t_33
            have : 0 ≤ (gi (C_30 0) 7).toInt ∧ (gi (C_30 0) 7).toInt ≤ 250 := fM_0_7 t_33
            have : 0 ≤ (gi (C_30 0) 23).toInt ∧ (gi (C_30 0) 23).toInt ≤ 250 := fM_0_23 t_33
            have : 0 ≤ (gi (C_30 0) 13).toInt ∧ (gi (C_30 0) 13).toInt ≤ 5 := fM_0_13 t_33
            have hms_40 := hq_31.2.2.2.2.2.1
            rw [show ga (C_24 7) = ga (C 7) from congrArg ga (Eq.trans (f_26.1 7 rfl (by decide)) (Eq.trans (hLF_23.1 7 rfl (by decide)) (Eq.trans (f_16.1 7 rfl (by decide)) (Eq.trans (f_10.1 7 rfl (by decide)) (Eq.trans (th_un e_5 (by decide)) (th_un e_2 (by decide)))))))] at hms_40
            rw [hQ]
            exact W.zret (v := 0) (ty := .boolean) hx hb hr (by decide) (fun t ht hW => ⟨⟨0, C_30, rfl, ⟨hT, hF, ⟨(Or.inl rfl), hq_31.2.2.2.1, (by omega), (fun A0 hA => ⟨fun h9 => absurd rfl h9, fun _ => ML_se (hm_23 A0 hA) c_21 c_22 (rg_w hk26_23 (by decide)) ep_28 (fun A h7 => absM_fr h7 t_20 (show fr [] [21, 22, 23, 24] K23 C_24 from (fr_tr fr_rf f_26 (by decide) (by decide))) (by decide) (by decide) (by decide)) hms_40 c_34⟩)⟩⟩, ⟨by rw [ht]; exact hP, hD⟩⟩, hS.F ht⟩) hS.2.2 dX7_read_55
        · refine lv_aload_n hx hb dX7_read_38 rfl (lv_at hl 0 rfl) ?_
          refine tm_V (As := []) (rest := []) ⟨hx, hb, hml, hown, htg⟩ (e_X7_wrong l D E G _ a K23 n hn hT) (cwV 0 htg (oh_gV q_1229 q_1231 q_44 q_73 q_1232) rfl rfl rfl pdVX7_wrong ⟨Nat.le_of_ble_eq_true rfl, Nat.le_of_ble_eq_true rfl⟩) hK hP hD hG hS hA (va_recv hK hP (ci := 7) (q0 := 0) rfl (oh_wg (Nat.lt_of_lt_of_le (by decide) hn) (sM_0 hT))) rfl hl.1 rfl (Nat.le_of_ble_eq_true rfl) dX7_read_39 ⟨Nat.le_of_ble_eq_true rfl, Nat.le_of_ble_eq_true rfl⟩ (fun r_41 C_42 H locs hq_43 hP hD hS => ?_)
          obtain ⟨hT, f_44, hq_43⟩ := hq_43
          have hF := fr_tr hF f_44 (by decide) (by decide)
          refine W.widen (k := 0) (n := 0) (Nat.le_refl _) (Nat.le_refl _) ?_
          have t_45 := hT
          have : (gi (C_14 0) 7).toInt = (gi (C_8 0) 7).toInt := congrArg (fun z => (vi z).toInt) (f_16.2 7 (by decide))
          have : (gi (K23 0) 7).toInt = (gi (C_14 0) 7).toInt := congrArg (fun z => (vi z).toInt) (hLF_23.2 7 (by decide))
          have : (gi (C_42 0) 21).toInt = (gi (K23 0) 21).toInt := congrArg (fun z => (vi z).toInt) (f_44.2 21 (by decide))
          have : (gi (C_42 0) 7).toInt = (gi (K23 0) 7).toInt := congrArg (fun z => (vi z).toInt) (f_44.2 7 (by decide))
          have : (gi (C_42 0) 23).toInt = (gi (K23 0) 23).toInt := congrArg (fun z => (vi z).toInt) (f_44.2 23 (by decide))
          have : (gi (C_42 0) 13).toInt = (gi (K23 0) 13).toInt := congrArg (fun z => (vi z).toInt) (f_44.2 13 (by decide))
          have : 0 ≤ (gi (C_14 0) 21).toInt ∧ (gi (C_14 0) 21).toInt ≤ 250 := fM_0_21 t_17
          have : 0 ≤ (gi (C_14 0) 7).toInt ∧ (gi (C_14 0) 7).toInt ≤ 250 := fM_0_7 t_17
          have : 0 ≤ (gi (C_14 0) 23).toInt ∧ (gi (C_14 0) 23).toInt ≤ 250 := fM_0_23 t_17
          have : 0 ≤ (gi (C_14 0) 13).toInt ∧ (gi (C_14 0) 13).toInt ≤ 5 := fM_0_13 t_17
          have : 0 ≤ (gi (K23 0) 21).toInt ∧ (gi (K23 0) 21).toInt ≤ 250 := fM_0_21 t_20
          have : 0 ≤ (gi (K23 0) 7).toInt ∧ (gi (K23 0) 7).toInt ≤ 250 := fM_0_7 t_20
          have : 0 ≤ (gi (K23 0) 23).toInt ∧ (gi (K23 0) 23).toInt ≤ 250 := fM_0_23 t_20
          have : 0 ≤ (gi (K23 0) 13).toInt ∧ (gi (K23 0) 13).toInt ≤ 5 := fM_0_13 t_20
          have : 0 ≤ (gi (C_42 0) 21).toInt ∧ (gi (C_42 0) 21).toInt ≤ 250 := fM_0_21 t_45
          have : 0 ≤ (gi (C_42 0) 7).toInt ∧ (gi (C_42 0) 7).toInt ≤ 250 := fM_0_7 t_45
          have : 0 ≤ (gi (C_42 0) 23).toInt ∧ (gi (C_42 0) 23).toInt ≤ 250 := fM_0_23 t_45
          have : 0 ≤ (gi (C_42 0) 13).toInt ∧ (gi (C_42 0) 13).toInt ≤ 5 := fM_0_13 t_45
          have : ¬ (gi (K23 0) 22).toInt = (0 : Int32).toInt := fun h7 => c_21 (Int32.toInt_inj.mp h7)
          have : (3 : Int32).toInt = 3 := rfl
          have : ¬ (gi (K23 0) 22).toInt = (3 : Int32).toInt := fun h7 => c_22 (Int32.toInt_inj.mp h7)
          rw [hQ]
          exact W.zret (v := r_41) (ty := .boolean) hx hb hr (oh_nb hq_43.1) (fun t ht hW => ⟨⟨r_41, C_42, rfl, ⟨hT, hF, ⟨hq_43.1, (RelW.fr hr_23 f_44 (by decide)), (by omega), (fun A0 hA => ⟨fun h9 => absurd hq_43.2.1 h9, fun _ => ML_w (fl := 0) (hm_23 A0 hA) c_21 c_22 (rg_w hk26_23 (by decide)) hq_43.2.2 (fun A h7 => absM_fr h7 t_20 (show fr [] [25] K23 C_42 from (fr_tr fr_rf f_44 (by decide) (by decide))) (by decide) (by decide) (by decide))⟩)⟩⟩, ⟨by rw [ht]; exact hP, hD⟩⟩, hS.F ht⟩) hS.2.2 dX7_read_42
    have : (gi (C_14 0) 7).toInt = (gi (C_8 0) 7).toInt := congrArg (fun z => (vi z).toInt) (f_16.2 7 (by decide))
    have : 0 ≤ (gi (C_14 0) 21).toInt ∧ (gi (C_14 0) 21).toInt ≤ 250 := fM_0_21 t_17
    have : 0 ≤ (gi (C_14 0) 7).toInt ∧ (gi (C_14 0) 7).toInt ≤ 250 := fM_0_7 t_17
    have : 0 ≤ (gi (C_14 0) 23).toInt ∧ (gi (C_14 0) 23).toInt ≤ 250 := fM_0_23 t_17
    have : 0 ≤ (gi (C_14 0) 13).toInt ∧ (gi (C_14 0) 13).toInt ≤ 5 := fM_0_13 t_17
    have hms_46 := hq_15.2.2.2.2.2.1
    rw [show ga (C_8 7) = ga (C 7) from congrArg ga (Eq.trans (f_10.1 7 rfl (by decide)) (Eq.trans (th_un e_5 (by decide)) (th_un e_2 (by decide))))] at hms_46
    exact L_23 _ C_14  _ _ ls rfl (by omega) hq_15.2.2.2.1 ⟨hq_15.2.2.2.2.2.2.1, (by omega)⟩ ⟨by rw [show gi (C_14 0) 26 = 1 from (Eq.trans (congrArg vi (f_16.2 26 (by decide))) (Eq.trans (congrArg vi (f_10.2 26 (by decide))) (Eq.trans (show gi (C_4 0) 26 = gi (C_1 0) 26 by rw [e_5]; rfl) (show gi (C_1 0) 26 = (1 : Int32) by rw [e_2]; rfl))))]; decide, by rw [show gi (C_14 0) 26 = 1 from (Eq.trans (congrArg vi (f_16.2 26 (by decide))) (Eq.trans (congrArg vi (f_10.2 26 (by decide))) (Eq.trans (show gi (C_4 0) 26 = gi (C_1 0) 26 by rw [e_5]; rfl) (show gi (C_1 0) 26 = (1 : Int32) by rw [e_2]; rfl)))), show (1 : Int32).toInt = 1 from rfl]; omega⟩ (fun A0 hA => ML_0 t_11 ((fun A h7 => absM_fr h7 hT0 (show fr [] [21, 22, 23, 24, 26] C C_8 from (fr_tr (fr_fde (fr_fde fr_rf e_2 (sM_0 hT0) (by decide)) e_5 (sM_0 t_3) (by decide)) f_10 (by decide) (by decide))) (by decide) (by decide) (by decide)) A0 hA) (Eq.trans ep_12 (congrArg (xAdv (ga (C 7))) (pm_mk (Eq.trans (show gi (C_4 0) 7 = gi (C_1 0) 7 by rw [e_5]; rfl) (show gi (C_1 0) 7 = gi (C 0) 7 by rw [e_2]; rfl)) (Eq.trans (show gi (C_4 0) 22 = gi (C_1 0) 22 by rw [e_5]; rfl) (show gi (C_1 0) 22 = gi (C 0) 22 by rw [e_2]; rfl)) (Eq.trans (show gi (C_4 0) 23 = gi (C_1 0) 23 by rw [e_5]; rfl) (show gi (C_1 0) 23 = gi (C 0) 23 by rw [e_2]; rfl)) (show gi (C_4 0) 21 = (0 : Int32) by rw [e_5]; rfl)))) (hms_46 A0 ((fun A h7 => absM_fr h7 hT0 (show fr [] [21, 22, 23, 24, 26] C C_8 from (fr_tr (fr_fde (fr_fde fr_rf e_2 (sM_0 hT0) (by decide)) e_5 (sM_0 t_3) (by decide)) f_10 (by decide) (by decide))) (by decide) (by decide) (by decide)) A0 hA)) c_18 (Eq.trans (congrArg vi (f_16.2 26 (by decide))) (Eq.trans (congrArg vi (f_10.2 26 (by decide))) (Eq.trans (show gi (C_4 0) 26 = gi (C_1 0) 26 by rw [e_5]; rfl) (show gi (C_1 0) 26 = (1 : Int32) by rw [e_2]; rfl))))) hT hF fr_rf hP hD hS (lv_sub hl [0] rfl)
  · refine lv_iconst (v := 0) hx hb dX7_read_21 (by decide) ?_
    have : (gi (C_14 0) 7).toInt = (gi (C_8 0) 7).toInt := congrArg (fun z => (vi z).toInt) (f_16.2 7 (by decide))
    have : 0 ≤ (gi (C_14 0) 21).toInt ∧ (gi (C_14 0) 21).toInt ≤ 250 := fM_0_21 t_17
    have : 0 ≤ (gi (C_14 0) 7).toInt ∧ (gi (C_14 0) 7).toInt ≤ 250 := fM_0_7 t_17
    have : 0 ≤ (gi (C_14 0) 23).toInt ∧ (gi (C_14 0) 23).toInt ≤ 250 := fM_0_23 t_17
    have : 0 ≤ (gi (C_14 0) 13).toInt ∧ (gi (C_14 0) 13).toInt ≤ 5 := fM_0_13 t_17
    have hms_47 := hq_15.2.2.2.2.2.1
    rw [show ga (C_8 7) = ga (C 7) from congrArg ga (Eq.trans (f_10.1 7 rfl (by decide)) (Eq.trans (th_un e_5 (by decide)) (th_un e_2 (by decide))))] at hms_47
    rw [hQ]
    exact W.zret (v := 0) (ty := .boolean) hx hb hr (by decide) (fun t ht hW => ⟨⟨0, C_14, rfl, ⟨hT, hF, ⟨(Or.inl rfl), hq_15.2.2.2.1, (by omega), (fun A0 hA => ⟨fun h9 => absurd rfl h9, fun _ => ML_0e (a := a) (E := E) ((fun A h7 => absM_fr h7 hT0 (show fr [] [21, 22, 23, 24, 26] C C_8 from (fr_tr (fr_fde (fr_fde fr_rf e_2 (sM_0 hT0) (by decide)) e_5 (sM_0 t_3) (by decide)) f_10 (by decide) (by decide))) (by decide) (by decide) (by decide)) A0 hA) (Eq.trans ep_12 (congrArg (xAdv (ga (C 7))) (pm_mk (Eq.trans (show gi (C_4 0) 7 = gi (C_1 0) 7 by rw [e_5]; rfl) (show gi (C_1 0) 7 = gi (C 0) 7 by rw [e_2]; rfl)) (Eq.trans (show gi (C_4 0) 22 = gi (C_1 0) 22 by rw [e_5]; rfl) (show gi (C_1 0) 22 = gi (C 0) 22 by rw [e_2]; rfl)) (Eq.trans (show gi (C_4 0) 23 = gi (C_1 0) 23 by rw [e_5]; rfl) (show gi (C_1 0) 23 = gi (C 0) 23 by rw [e_2]; rfl)) (show gi (C_4 0) 21 = (0 : Int32) by rw [e_5]; rfl)))) (hms_47 A0 ((fun A h7 => absM_fr h7 hT0 (show fr [] [21, 22, 23, 24, 26] C C_8 from (fr_tr (fr_fde (fr_fde fr_rf e_2 (sM_0 hT0) (by decide)) e_5 (sM_0 t_3) (by decide)) f_10 (by decide) (by decide))) (by decide) (by decide) (by decide)) A0 hA)) c_18⟩)⟩⟩, ⟨by rw [ht]; exact hP, hD⟩⟩, hS.F ht⟩) hS.2.2 dX7_read_22

theorem all4 {P : Nat → Prop} (h0 : P 0) (h1 : P 1) (h2 : P 2) (h3 : P 3) : ∀ s, s < 4 → P s := by
  intro s hs
  rcases (show s = 0 ∨ s = 1 ∨ s = 2 ∨ s = 3 by omega) with rfl | rfl | rfl | rfl
  · exact h0
  · exact h1
  · exact h2
  · exact h3
theorem u13 {g h : Nat → Int32} {x y : Int32} (e : h = upd (upd g ((0 : Int32)).toNatClampNeg x) ((1 : Int32)).toNatClampNeg y) : h 0 = x ∧ h 1 = y ∧ h 2 = g 2 := by
  rw [e]
  exact ⟨rfl, rfl, rfl⟩
theorem two2 {P : Nat → Prop} (h0 : P 0) (h1 : P 1) : ∀ s, s < 2 → P s := by
  intro s hs
  rcases (show s = 0 ∨ s = 1 by omega) with rfl | rfl
  · exact h0
  · exact h1

set_option maxHeartbeats 4000000 in
set_option maxRecDepth 100000 in
theorem e_X7_land (l : Launch) (D : va_G) (E : Nat → ClassId) (G : Nat → Nat) (sz : Nat) (a : Nat → Nat) (C : Nat → va_E) (n : Nat) (hn : 74 ≤ n) (hT : TyM a E C) (hR : RelM C) : Met l yX7_land (oh_w yX7_land cX7_land 8 (some .int)) ({ frames := 10, cells := 0, slots := 0, locals := 219 }) (oh_Pm D E G [.ref (a 0)] (oh_W n a C) sz) (va_Qi (fun r (u : Nat → va_E) => TyM a E u ∧ fr [(8, 9), (13, 14), (24, 48), (48, 64), (64, 69), (69, 74)] [7, 9, 11, 13, 15, 21, 22, 23, 24, 25, 26] C u ∧ (RelM u) ∧ (gi (u 0) 7 = 0) ∧ (∀ A0 : LA, absM C A0 → ∃ B : LA, LandR (rdTot (ga (C 7)) (gi (C 0) 7) A0) A0 B r ∧ absM u B)) (oh_B D (va_A (oh_W n a C) sz) (fun u => oh_W n a u)) (va_A (oh_W n a C) sz)) 0 0 (va_A (oh_W n a C) sz) := by
  refine Met.ofW (cc := cX7_land) (maxL := 8) (ret := (some .int)) (by decide) rfl ?_
  intro p e s m args below meth c s₁ B hml hv
  obtain ⟨rfl, hsz, hP, hK, hD0, hG⟩ := hv
  have hx := B.exec
  have hb := B.bytes
  have hr := B.returns
  have hts := atoms_spec (ws := (oh_w yX7_land cX7_land 8 (some .int))) B.pre
  have htg : ∀ w ∈ oh_t, w.before _ s = true := fun w h => hts w (List.mem_cons_of_mem _ h)
  have hown : s.vm.findClass RX7 = some m.cls := findClass_of_methodNamed B.named
  have hlocks := B.notSynchronized
  have hT0 := hT
  subst hsz
  have hD := hD0.self (sz := s.heap.size)
  generalize hAe : va_A (oh_W n a C) s.heap.size = A at hD hG ⊢
  have hA : ∀ q : Nat, s.heap.size ≤ q → A q := fun q h => by rw [← hAe]; exact Or.inr h
  have hS : va_S A s.heap s.heap [] := va_S.rf
  have hF : fr [(8, 9), (13, 14), (24, 48), (48, 64), (64, 69), (69, 74)] [7, 9, 11, 13, 15, 21, 22, 23, 24, 25, 26] C C := fr_rf
  have hl := lv_entry ([.ref (a 0)]) (n := 8) (Nat.le_of_ble_eq_true rfl)
  rw [lg_entry_eq]
  generalize (lg_sl ([.ref (a 0)]) ++ List.replicate (8 - (lg_sl ([.ref (a 0)])).length) Slot.unset).toArray = ls at hl ⊢
  have hl : lv_has ls 8 [(0, .ref (a 0))] := hl
  refine oh_genQ (fun Q hQ => ?_)
  refine lv_aload_n hx hb dX7_land_0 rfl (lv_at hl 0 rfl) ?_
  refine va_get (D := D) (ci := 7) (v := .int (gi (C 0) 9)) (C := RX7) (T := TX7) (N := 29) hx hb htg ig_7 hown hK hP 0 (oh_wg (Nat.lt_of_lt_of_le (by decide) hn) (sM_0 hT)) rfl 9 (by decide) (htg _ q_982) (fun _ h9 => h9) rfl dX7_land_1 ?_
  refine lv_istore_n (lv' := [(1, .int (gi (C 0) 9)), (0, .ref (a 0))]) hx hb dX7_land_4 rfl hl (by decide) rfl (fun ls hl => ?_)
  refine lv_aload_n hx hb dX7_land_5 rfl (lv_at hl 1 rfl) ?_
  refine va_get (D := D) (ci := 7) (v := .int (gi (C 0) 11)) (C := RX7) (T := TX7) (N := 29) hx hb htg ig_7 hown hK hP 0 (oh_wg (Nat.lt_of_lt_of_le (by decide) hn) (sM_0 hT)) rfl 11 (by decide) (htg _ q_984) (fun _ h9 => h9) rfl dX7_land_6 ?_
  refine lv_istore_n (lv' := [(2, .int (gi (C 0) 11)), (1, .int (gi (C 0) 9)), (0, .ref (a 0))]) hx hb dX7_land_9 rfl hl (by decide) rfl (fun ls hl => ?_)
  refine lv_aload_n hx hb dX7_land_10 rfl (lv_at hl 2 rfl) ?_
  refine va_get (D := D) (ci := 7) (v := .int (gi (C 0) 13)) (C := RX7) (T := TX7) (N := 29) hx hb htg ig_7 hown hK hP 0 (oh_wg (Nat.lt_of_lt_of_le (by decide) hn) (sM_0 hT)) rfl 13 (by decide) (htg _ q_986) (fun _ h9 => h9) rfl dX7_land_11 ?_
  refine lv_istore_n (lv' := [(3, .int (gi (C 0) 13)), (2, .int (gi (C 0) 11)), (1, .int (gi (C 0) 9)), (0, .ref (a 0))]) hx hb dX7_land_14 rfl hl (by decide) rfl (fun ls hl => ?_)
  refine lv_aload_n hx hb dX7_land_15 rfl (lv_at hl 3 rfl) ?_
  refine va_get (D := D) (ci := 7) (v := .int (gi (C 0) 15)) (C := RX7) (T := TX7) (N := 29) hx hb htg ig_7 hown hK hP 0 (oh_wg (Nat.lt_of_lt_of_le (by decide) hn) (sM_0 hT)) rfl 15 (by decide) (htg _ q_988) (fun _ h9 => h9) rfl dX7_land_16 ?_
  refine lv_istore (lv' := [(4, .int (gi (C 0) 15)), (3, .int (gi (C 0) 13)), (2, .int (gi (C 0) 11)), (1, .int (gi (C 0) 9)), (0, .ref (a 0))]) hx hb dX7_land_19 hl (by decide) rfl (fun ls hl => ?_)
  refine lv_aload_n hx hb dX7_land_21 rfl (lv_at hl 4 rfl) ?_
  refine va_get (D := D) (ci := 7) (v := .ref (a 13)) (C := RX7) (T := TX7) (N := 29) hx hb htg ig_7 hown hK hP 0 (oh_wg (Nat.lt_of_lt_of_le (by decide) hn) (sM_0 hT)) rfl 17 (by decide) (htg _ q_990) (fun _ h9 => h9) rfl dX7_land_22 ?_
  refine lv_iconst (v := 0) hx hb dX7_land_25 (by decide) ?_
  refine th_iald hx hb hK hP 13 (Nat.lt_of_lt_of_le (by decide) hn) (sM_13 hT) (rg_in (rg_c (v := 0) (lo := 0) (hi := 0) (by decide)) (by decide)) dX7_land_26 ?_
  refine lv_istore (lv' := [(5, .int (ga (C 13) ((0 : Int32)).toNatClampNeg)), (4, .int (gi (C 0) 15)), (3, .int (gi (C 0) 13)), (2, .int (gi (C 0) 11)), (1, .int (gi (C 0) 9)), (0, .ref (a 0))]) hx hb dX7_land_27 hl (by decide) rfl (fun ls hl => ?_)
  refine lv_aload_n hx hb dX7_land_29 rfl (lv_at hl 5 rfl) ?_
  refine va_get (D := D) (ci := 7) (v := .ref (a 13)) (C := RX7) (T := TX7) (N := 29) hx hb htg ig_7 hown hK hP 0 (oh_wg (Nat.lt_of_lt_of_le (by decide) hn) (sM_0 hT)) rfl 17 (by decide) (htg _ q_990) (fun _ h9 => h9) rfl dX7_land_30 ?_
  refine lv_iconst (v := 1) hx hb dX7_land_33 (by decide) ?_
  refine th_iald hx hb hK hP 13 (Nat.lt_of_lt_of_le (by decide) hn) (sM_13 hT) (rg_in (rg_c (v := 1) (lo := 1) (hi := 1) (by decide)) (by decide)) dX7_land_34 ?_
  refine lv_istore (lv' := [(6, .int (ga (C 13) ((1 : Int32)).toNatClampNeg)), (5, .int (ga (C 13) ((0 : Int32)).toNatClampNeg)), (4, .int (gi (C 0) 15)), (3, .int (gi (C 0) 13)), (2, .int (gi (C 0) 11)), (1, .int (gi (C 0) 9)), (0, .ref (a 0))]) hx hb dX7_land_35 hl (by decide) rfl (fun ls hl => ?_)
  refine lv_aload_n hx hb dX7_land_37 rfl (lv_at hl 6 rfl) ?_
  refine tm_V (As := []) (rest := []) ⟨hx, hb, hml, hown, htg⟩ (e_X7_read l D E G _ a C n hn hT hR.1) (cwV 0 htg (oh_gV q_1193 q_1195 q_38 q_73 q_1196) rfl rfl rfl pdVX7_read ⟨Nat.le_of_ble_eq_true rfl, Nat.le_of_ble_eq_true rfl⟩) hK hP hD hG hS hA (va_recv hK hP (ci := 7) (q0 := 0) rfl (oh_wg (Nat.lt_of_lt_of_le (by decide) hn) (sM_0 hT))) rfl hl.1 rfl (Nat.le_of_ble_eq_true rfl) dX7_land_38 ⟨Nat.le_of_ble_eq_true rfl, Nat.le_of_ble_eq_true rfl⟩ (fun r_1 C_2 H locs hq_3 hP hD hS => ?_)
  obtain ⟨hT, f_4, hq_3⟩ := hq_3
  have hF := fr_tr hF f_4 (by decide) (by decide)
  refine W.widen (k := 0) (n := 0) (Nat.le_refl _) (Nat.le_refl _) ?_
  have t_5 := hT
  refine lv_istore (lv' := [(7, .int r_1), (6, .int (ga (C 13) ((1 : Int32)).toNatClampNeg)), (5, .int (ga (C 13) ((0 : Int32)).toNatClampNeg)), (4, .int (gi (C 0) 15)), (3, .int (gi (C 0) 13)), (2, .int (gi (C 0) 11)), (1, .int (gi (C 0) 9)), (0, .ref (a 0))]) hx hb dX7_land_41 hl (by decide) rfl (fun ls hl => ?_)
  refine lv_aload_n hx hb dX7_land_43 rfl (lv_at hl 7 rfl) ?_
  refine lv_iconst (v := 0) hx hb dX7_land_44 (by decide) ?_
  refine th_put (Tp := TyM a E) (Rl := fr [(8, 9), (13, 14), (24, 48), (48, 64), (64, 69), (69, 74)] [7, 9, 11, 13, 15, 21, 22, 23, 24, 25, 26] C) (ci := 7) (v := .int 0) (ty := .int) (CC := RX7) (T := TX7) (N := 29) hx hb htg ig_7 tyX7 tyX7_ok nmX7 hown hK hP hD hS 0 (Nat.lt_of_lt_of_le (by decide) hn) (sM_0 hT) rfl 7 (by decide) (htg _ q_980) (fun _ h9 => h9) rfl (by decide +kernel) rfl rfl (Nat.le_of_ble_eq_true rfl) (hT.up 0 (by decide) ⟨rfl, (rg_w (rg_c (v := 0) (lo := 0) (hi := 0) (by decide)) (by decide)), (fM_0_9 hT), (fM_0_11 hT), (fM_0_13 hT), (fM_0_15 hT), (fM_0_21 hT), (fM_0_23 hT)⟩) (fr_fd hF (sM_0 hT) (by decide)) dX7_land_45 (fun C_6 H locs e_7 hT hF hP hD hS => ?_)
  have t_8 := hT
  refine lv_iload hx hb dX7_land_48 (lv_at hl 0 rfl) ?_
  refine lv_if_ne (tgt := 105) hx hb dX7_land_50 (by decide) (fun (c_9 : ¬ (r_1 = 0)) => ?_) (fun (c_9 : r_1 = 0) => ?_)
  · refine lv_aload_n hx hb dX7_land_105 rfl (lv_at hl 7 rfl) ?_
    refine va_get (D := D) (ci := 7) (v := .int (gi (C_2 0) 26)) (C := RX7) (T := TX7) (N := 29) hx hb htg ig_7 hown hK hP 0 (oh_wg (Nat.lt_of_lt_of_le (by decide) hn) (sM_0 hT)) rfl 26 (by decide) (htg _ q_999) (fun _ h9 => h9) (oh_fv (c := C_6 0) (j := 26) rfl (show gi (C_6 0) 26 = gi (C_2 0) 26 by rw [e_7]; rfl)) dX7_land_106 ?_
    rw [hQ]
    exact W.iret (v := gi (C_2 0) 26) hx hb hr (fun t ht hW => ⟨⟨gi (C_2 0) 26, C_6, rfl, ⟨hT, hF, ⟨⟨(RelW.fr hq_3.2.1 (fr_fde (mc := []) (mf := [7]) fr_rf e_7 (sM_0 t_5) (by decide)) (by decide)), hR.2.fr hF (by decide)⟩, (show gi (C_6 0) 7 = (0 : Int32) by rw [e_7]; rfl), (fun A0 hA => mland_ok (hq_3.2.2.2 A0 hA) c_9 rfl (fun A h7 => absM_fr h7 t_5 (show fr [] [7] C_2 C_6 from (fr_fde fr_rf e_7 (sM_0 t_5) (by decide))) (by decide) (by decide) (by decide)))⟩⟩, ⟨by rw [ht]; exact hP, hD⟩⟩, hS.F ht⟩) hS.2.2 dX7_land_109
  · refine lv_aload_n hx hb dX7_land_53 rfl (lv_at hl 7 rfl) ?_
    refine lv_iload_n hx hb dX7_land_54 rfl (lv_at hl 6 rfl) ?_
    refine th_put (Tp := TyM a E) (Rl := fr [(8, 9), (13, 14), (24, 48), (48, 64), (64, 69), (69, 74)] [7, 9, 11, 13, 15, 21, 22, 23, 24, 25, 26] C) (ci := 7) (v := .int (gi (C 0) 9)) (ty := .int) (CC := RX7) (T := TX7) (N := 29) hx hb htg ig_7 tyX7 tyX7_ok nmX7 hown hK hP hD hS 0 (Nat.lt_of_lt_of_le (by decide) hn) (sM_0 hT) rfl 9 (by decide) (htg _ q_982) (fun _ h9 => h9) rfl (by decide +kernel) rfl rfl (Nat.le_of_ble_eq_true rfl) (hT.up 0 (by decide) ⟨rfl, (fM_0_7 hT), (rg_w (fM_0_9 hT0) (by decide)), (fM_0_11 hT), (fM_0_13 hT), (fM_0_15 hT), (fM_0_21 hT), (fM_0_23 hT)⟩) (fr_fd hF (sM_0 hT) (by decide)) dX7_land_55 (fun C_10 H locs e_11 hT hF hP hD hS => ?_)
    have t_12 := hT
    refine lv_aload_n hx hb dX7_land_58 rfl (lv_at hl 7 rfl) ?_
    refine lv_iload_n hx hb dX7_land_59 rfl (lv_at hl 5 rfl) ?_
    refine th_put (Tp := TyM a E) (Rl := fr [(8, 9), (13, 14), (24, 48), (48, 64), (64, 69), (69, 74)] [7, 9, 11, 13, 15, 21, 22, 23, 24, 25, 26] C) (ci := 7) (v := .int (gi (C 0) 11)) (ty := .int) (CC := RX7) (T := TX7) (N := 29) hx hb htg ig_7 tyX7 tyX7_ok nmX7 hown hK hP hD hS 0 (Nat.lt_of_lt_of_le (by decide) hn) (sM_0 hT) rfl 11 (by decide) (htg _ q_984) (fun _ h9 => h9) rfl (by decide +kernel) rfl rfl (Nat.le_of_ble_eq_true rfl) (hT.up 0 (by decide) ⟨rfl, (fM_0_7 hT), (fM_0_9 hT), (rg_w (fM_0_11 hT0) (by decide)), (fM_0_13 hT), (fM_0_15 hT), (fM_0_21 hT), (fM_0_23 hT)⟩) (fr_fd hF (sM_0 hT) (by decide)) dX7_land_60 (fun C_13 H locs e_14 hT hF hP hD hS => ?_)
    have t_15 := hT
    refine lv_aload_n hx hb dX7_land_63 rfl (lv_at hl 7 rfl) ?_
    refine lv_iload_n hx hb dX7_land_64 rfl (lv_at hl 4 rfl) ?_
    refine th_put (Tp := TyM a E) (Rl := fr [(8, 9), (13, 14), (24, 48), (48, 64), (64, 69), (69, 74)] [7, 9, 11, 13, 15, 21, 22, 23, 24, 25, 26] C) (ci := 7) (v := .int (gi (C 0) 13)) (ty := .int) (CC := RX7) (T := TX7) (N := 29) hx hb htg ig_7 tyX7 tyX7_ok nmX7 hown hK hP hD hS 0 (Nat.lt_of_lt_of_le (by decide) hn) (sM_0 hT) rfl 13 (by decide) (htg _ q_986) (fun _ h9 => h9) rfl (by decide +kernel) rfl rfl (Nat.le_of_ble_eq_true rfl) (hT.up 0 (by decide) ⟨rfl, (fM_0_7 hT), (fM_0_9 hT), (fM_0_11 hT), (rg_w (fM_0_13 hT0) (by decide)), (fM_0_15 hT), (fM_0_21 hT), (fM_0_23 hT)⟩) (fr_fd hF (sM_0 hT) (by decide)) dX7_land_65 (fun C_16 H locs e_17 hT hF hP hD hS => ?_)
    have t_18 := hT
    refine lv_aload_n hx hb dX7_land_68 rfl (lv_at hl 7 rfl) ?_
    refine lv_iload hx hb dX7_land_69 (lv_at hl 3 rfl) ?_
    refine th_put (Tp := TyM a E) (Rl := fr [(8, 9), (13, 14), (24, 48), (48, 64), (64, 69), (69, 74)] [7, 9, 11, 13, 15, 21, 22, 23, 24, 25, 26] C) (ci := 7) (v := .int (gi (C 0) 15)) (ty := .int) (CC := RX7) (T := TX7) (N := 29) hx hb htg ig_7 tyX7 tyX7_ok nmX7 hown hK hP hD hS 0 (Nat.lt_of_lt_of_le (by decide) hn) (sM_0 hT) rfl 15 (by decide) (htg _ q_988) (fun _ h9 => h9) rfl (by decide +kernel) rfl rfl (Nat.le_of_ble_eq_true rfl) (hT.up 0 (by decide) ⟨rfl, (fM_0_7 hT), (fM_0_9 hT), (fM_0_11 hT), (fM_0_13 hT), (rg_w (fM_0_15 hT0) (by decide)), (fM_0_21 hT), (fM_0_23 hT)⟩) (fr_fd hF (sM_0 hT) (by decide)) dX7_land_71 (fun C_19 H locs e_20 hT hF hP hD hS => ?_)
    have t_21 := hT
    refine lv_aload_n hx hb dX7_land_74 rfl (lv_at hl 7 rfl) ?_
    refine va_get (D := D) (ci := 7) (v := .ref (a 13)) (C := RX7) (T := TX7) (N := 29) hx hb htg ig_7 hown hK hP 0 (oh_wg (Nat.lt_of_lt_of_le (by decide) hn) (sM_0 hT)) rfl 17 (by decide) (htg _ q_990) (fun _ h9 => h9) rfl dX7_land_75 ?_
    refine lv_iconst (v := 0) hx hb dX7_land_78 (by decide) ?_
    refine lv_iload hx hb dX7_land_79 (lv_at hl 2 rfl) ?_
    refine th_iast (T := TyM a E) (Rl := fr [(8, 9), (13, 14), (24, 48), (48, 64), (64, 69), (69, 74)] [7, 9, 11, 13, 15, 21, 22, 23, 24, 25, 26] C) hx hb hK hP hD hS 13 (Nat.lt_of_lt_of_le (by decide) hn) (sM_13 hT) (rg_in (rg_c (v := 0) (lo := 0) (hi := 0) (by decide)) (by decide)) (hT.up 13 (by decide) (tA_upd (tM_13 hT) tA_any)) (fr_st hF (by decide) (by decide)) dX7_land_81 (fun C_22 H locs e_23 hT hF hP hD hS => ?_)
    have t_24 := hT
    refine lv_aload_n hx hb dX7_land_82 rfl (lv_at hl 7 rfl) ?_
    refine va_get (D := D) (ci := 7) (v := .ref (a 13)) (C := RX7) (T := TX7) (N := 29) hx hb htg ig_7 hown hK hP 0 (oh_wg (Nat.lt_of_lt_of_le (by decide) hn) (sM_0 hT)) rfl 17 (by decide) (htg _ q_990) (fun _ h9 => h9) rfl dX7_land_83 ?_
    refine lv_iconst (v := 1) hx hb dX7_land_86 (by decide) ?_
    refine lv_iload hx hb dX7_land_87 (lv_at hl 1 rfl) ?_
    refine th_iast (T := TyM a E) (Rl := fr [(8, 9), (13, 14), (24, 48), (48, 64), (64, 69), (69, 74)] [7, 9, 11, 13, 15, 21, 22, 23, 24, 25, 26] C) hx hb hK hP hD hS 13 (Nat.lt_of_lt_of_le (by decide) hn) (sM_13 hT) (rg_in (rg_c (v := 1) (lo := 1) (hi := 1) (by decide)) (by decide)) (hT.up 13 (by decide) (tA_upd (tM_13 hT) tA_any)) (fr_st hF (by decide) (by decide)) dX7_land_89 (fun C_25 H locs e_26 hT hF hP hD hS => ?_)
    have t_27 := hT
    refine lv_aload_n hx hb dX7_land_90 rfl (lv_at hl 7 rfl) ?_
    refine lv_bipush (v := (-2)) hx hb dX7_land_91 (by decide) ?_
    refine tm_V (As := [.int (-2)]) (rest := []) ⟨hx, hb, hml, hown, htg⟩ (c_X7_refuse l D E G _ a C_25 n hn hT ((-2) : Int32) (rg_w (rg_c (v := (-2)) (lo := (-2)) (hi := (-2)) (by decide)) (by decide))) (cwV 1 htg (oh_gV q_1071 q_1073 q_29 q_73 q_1074) rfl rfl rfl pdVX7_refuse ⟨Nat.le_of_ble_eq_true rfl, Nat.le_of_ble_eq_true rfl⟩) hK hP hD hG hS hA (va_recv hK hP (ci := 7) (q0 := 0) rfl (oh_wg (Nat.lt_of_lt_of_le (by decide) hn) (sM_0 hT))) rfl hl.1 rfl (Nat.le_of_ble_eq_true rfl) dX7_land_93 ⟨Nat.le_of_ble_eq_true rfl, Nat.le_of_ble_eq_true rfl⟩ (fun r_28 C_29 H locs hq_30 hP hD hS => ?_)
    obtain ⟨hT, f_31, hq_30⟩ := hq_30
    have hF := fr_tr hF f_31 (by decide) (by decide)
    refine W.widen (k := 0) (n := 0) (Nat.le_refl _) (Nat.le_refl _) ?_
    have t_32 := hT
    refine lv_pop hx hb dX7_land_96 rfl ?_
    refine lv_bipush (v := (-20)) hx hb dX7_land_97 (by decide) ?_
    refine lv_aload_n hx hb dX7_land_99 rfl (lv_at hl 7 rfl) ?_
    refine va_get (D := D) (ci := 7) (v := .int (gi (C_2 0) 25)) (C := RX7) (T := TX7) (N := 29) hx hb htg ig_7 hown hK hP 0 (oh_wg (Nat.lt_of_lt_of_le (by decide) hn) (sM_0 hT)) rfl 25 (by decide) (htg _ q_998) (fun _ h9 => h9) (oh_fv (c := C_29 0) (j := 25) rfl (Eq.trans (congrArg vi (f_31.2 25 (by decide))) (Eq.trans (congrArg (fun z => gi z 25) (th_un e_26 (by decide))) (Eq.trans (congrArg (fun z => gi z 25) (th_un e_23 (by decide))) (Eq.trans (show gi (C_19 0) 25 = gi (C_16 0) 25 by rw [e_20]; rfl) (Eq.trans (show gi (C_16 0) 25 = gi (C_13 0) 25 by rw [e_17]; rfl) (Eq.trans (show gi (C_13 0) 25 = gi (C_10 0) 25 by rw [e_14]; rfl) (Eq.trans (show gi (C_10 0) 25 = gi (C_6 0) 25 by rw [e_11]; rfl) (show gi (C_6 0) 25 = gi (C_2 0) 25 by rw [e_7]; rfl))))))))) dX7_land_100 ?_
    refine lv_isub hx hb dX7_land_103 ?_
    have u13_33 := u13 (show ga (C_29 13) = upd (upd (ga (C_19 13)) ((0 : Int32)).toNatClampNeg (ga (C 13) ((0 : Int32)).toNatClampNeg)) ((1 : Int32)).toNatClampNeg (ga (C 13) ((1 : Int32)).toNatClampNeg) by rw [(f_31.1 13 rfl (by decide)), st_ga e_26, st_ga e_23])
    rw [hQ]
    exact W.iret (v := (-20) - (gi (C_2 0) 25)) hx hb hr (fun t ht hW => ⟨⟨(-20) - (gi (C_2 0) 25), C_29, rfl, ⟨hT, hF, ⟨⟨(relW_back hR.1 hq_3.2.1 (fun i hi => (Eq.trans (f_31.1 _ (inR_out hi (by decide)) (by omega)) (Eq.trans (th_un e_26 (by omega)) (Eq.trans (th_un e_23 (by omega)) (Eq.trans (th_un e_20 (by omega)) (Eq.trans (th_un e_17 (by omega)) (Eq.trans (th_un e_14 (by omega)) (Eq.trans (th_un e_11 (by omega)) (th_un e_7 (by omega)))))))))) (congrArg Int32.toInt (Eq.trans (congrArg vi (f_31.2 13 (by decide))) (Eq.trans (congrArg (fun z => gi z 13) (th_un e_26 (by decide))) (Eq.trans (congrArg (fun z => gi z 13) (th_un e_23 (by decide))) (Eq.trans (show gi (C_19 0) 13 = gi (C_16 0) 13 by rw [e_20]; rfl) (show gi (C_16 0) 13 = (gi (C 0) 13) by rw [e_17]; rfl)))))) hq_3.2.2.1 (Eq.trans (f_31.1 14 rfl (by decide)) (Eq.trans (th_un e_26 (by decide)) (Eq.trans (th_un e_23 (by decide)) (Eq.trans (th_un e_20 (by decide)) (Eq.trans (th_un e_17 (by decide)) (Eq.trans (th_un e_14 (by decide)) (Eq.trans (th_un e_11 (by decide)) (Eq.trans (th_un e_7 (by decide)) (f_4.1 14 rfl (by decide))))))))))), hR.2.fr hF (by decide)⟩, (Eq.trans (congrArg vi (f_31.2 7 (by decide))) (Eq.trans (congrArg (fun z => gi z 7) (th_un e_26 (by decide))) (Eq.trans (congrArg (fun z => gi z 7) (th_un e_23 (by decide))) (Eq.trans (show gi (C_19 0) 7 = gi (C_16 0) 7 by rw [e_20]; rfl) (Eq.trans (show gi (C_16 0) 7 = gi (C_13 0) 7 by rw [e_17]; rfl) (Eq.trans (show gi (C_13 0) 7 = gi (C_10 0) 7 by rw [e_14]; rfl) (Eq.trans (show gi (C_10 0) 7 = gi (C_6 0) 7 by rw [e_11]; rfl) (show gi (C_6 0) 7 = (0 : Int32) by rw [e_7]; rfl)))))))), (fun A0 hA => mland_er (hq_3.2.2.2 A0 hA) c_9 hA rfl rfl (all4 (P := fun s => gi (C_29 0) (9 + 2 * s) = gi (C 0) (9 + 2 * s)) (Eq.trans (congrArg vi (f_31.2 9 (by decide))) (Eq.trans (congrArg (fun z => gi z 9) (th_un e_26 (by decide))) (Eq.trans (congrArg (fun z => gi z 9) (th_un e_23 (by decide))) (Eq.trans (show gi (C_19 0) 9 = gi (C_16 0) 9 by rw [e_20]; rfl) (Eq.trans (show gi (C_16 0) 9 = gi (C_13 0) 9 by rw [e_17]; rfl) (Eq.trans (show gi (C_13 0) 9 = gi (C_10 0) 9 by rw [e_14]; rfl) (show gi (C_10 0) 9 = (gi (C 0) 9) by rw [e_11]; rfl))))))) (Eq.trans (congrArg vi (f_31.2 11 (by decide))) (Eq.trans (congrArg (fun z => gi z 11) (th_un e_26 (by decide))) (Eq.trans (congrArg (fun z => gi z 11) (th_un e_23 (by decide))) (Eq.trans (show gi (C_19 0) 11 = gi (C_16 0) 11 by rw [e_20]; rfl) (Eq.trans (show gi (C_16 0) 11 = gi (C_13 0) 11 by rw [e_17]; rfl) (show gi (C_13 0) 11 = (gi (C 0) 11) by rw [e_14]; rfl)))))) (Eq.trans (congrArg vi (f_31.2 13 (by decide))) (Eq.trans (congrArg (fun z => gi z 13) (th_un e_26 (by decide))) (Eq.trans (congrArg (fun z => gi z 13) (th_un e_23 (by decide))) (Eq.trans (show gi (C_19 0) 13 = gi (C_16 0) 13 by rw [e_20]; rfl) (show gi (C_16 0) 13 = (gi (C 0) 13) by rw [e_17]; rfl))))) (Eq.trans (congrArg vi (f_31.2 15 (by decide))) (Eq.trans (congrArg (fun z => gi z 15) (th_un e_26 (by decide))) (Eq.trans (congrArg (fun z => gi z 15) (th_un e_23 (by decide))) (show gi (C_19 0) 15 = (gi (C 0) 15) by rw [e_20]; rfl))))) (two2 (P := fun j => ga (C_29 13) j = ga (C 13) j) u13_33.1 u13_33.2.1) (Eq.trans u13_33.2.2 (congrArg (fun z => ga z 2) (Eq.trans (th_un e_20 (by decide)) (Eq.trans (th_un e_17 (by decide)) (Eq.trans (th_un e_14 (by decide)) (Eq.trans (th_un e_11 (by decide)) (th_un e_7 (by decide)))))))) (fun s hs => frB 9 t_5 (show fr [(8, 9), (13, 14)] [7, 9, 11, 13, 15] C_2 C_29 from (fr_tr (fr_ste (fr_ste (fr_fde (fr_fde (fr_fde (fr_fde (fr_fde fr_rf e_7 (sM_0 t_5) (by decide)) e_11 (sM_0 t_8) (by decide)) e_14 (sM_0 t_12) (by decide)) e_17 (sM_0 t_15) (by decide)) e_20 (sM_0 t_18) (by decide)) e_23 (by decide) (by decide)) e_26 (by decide) (by decide)) f_31 (by decide) (by decide))) (by decide) s hs (by omega)))⟩⟩, ⟨by rw [ht]; exact hP, hD⟩⟩, hS.F ht⟩) hS.2.2 dX7_land_104
