set_option maxHeartbeats 4000000 in
set_option maxRecDepth 100000 in
theorem e_X7_read (l : Launch) (D : va_G) (E : Nat → ClassId) (G : Nat → Nat) (sz : Nat) (a : Nat → Nat) (C : Nat → va_E) (n : Nat) (hn : 74 ≤ n) (hT : TyM a E C) (hR : RelW C) : Met l yX7_read (oh_w yX7_read cX7_read 1 (some .boolean)) ({ frames := 9, cells := 0, slots := 0, locals := 199 }) (oh_Pm D E G [.ref (a 0)] (oh_W n a C) sz) (va_Qi (fun r (u : Nat → va_E) => TyM a E u ∧ fr [(13, 14), (24, 48), (48, 64), (64, 69), (69, 74)] [9, 11, 13, 15, 21, 22, 23, 24, 25, 26] C u ∧ (r = 0 ∨ r = 1) ∧ (RelW u) ∧ ((gi (C 0) 13).toInt ≤ (gi (u 0) 13).toInt) ∧ (∀ A0 : LA, absM C A0 → RelMr (rdTot (ga (C 7)) (gi (C 0) 7) A0) A0 r u)) (oh_B D (va_A (oh_W n a C) sz) (fun u => oh_W n a u)) (va_A (oh_W n a C) sz)) 0 0 (va_A (oh_W n a C) sz) := by
  refine Met.ofW (cc := cX7_read) (maxL := 1) (ret := (some .boolean)) (by decide) rfl ?_
  intro p e s m args below meth c s₁ B hml hv
  obtain ⟨rfl, hsz, hP, hK, hD0, hG⟩ := hv
  have hx := B.exec
  have hb := B.bytes
  have hr := B.returns
  have hts := atoms_spec (ws := (oh_w yX7_read cX7_read 1 (some .boolean))) B.pre
  have htg : ∀ w ∈ oh_t, w.before _ s = true := fun w h => hts w (List.mem_cons_of_mem _ h)
  have hown : s.vm.findClass RX7 = some m.cls := findClass_of_methodNamed B.named
  have hlocks := B.notSynchronized
  have hT0 := hT
  subst hsz
  have hD := hD0.self (sz := s.heap.size)
  generalize hAe : va_A (oh_W n a C) s.heap.size = A at hD hG ⊢
  have hA : ∀ q : Nat, s.heap.size ≤ q → A q := fun q h => by rw [← hAe]; exact Or.inr h
  have hS : va_S A s.heap s.heap [] := va_S.rf
  have hF : fr [(13, 14), (24, 48), (48, 64), (64, 69), (69, 74)] [9, 11, 13, 15, 21, 22, 23, 24, 25, 26] C C := fr_rf
  have hl := lv_entry ([.ref (a 0)]) (n := 1) (Nat.le_of_ble_eq_true rfl)
  rw [lg_entry_eq]
  generalize (lg_sl ([.ref (a 0)]) ++ List.replicate (1 - (lg_sl ([.ref (a 0)])).length) Slot.unset).toArray = ls at hl ⊢
  have hl : lv_has ls 1 [(0, .ref (a 0))] := hl
  refine oh_genQ (fun Q hQ => ?_)
  refine lv_aload_n hx hb dX7_read_0 rfl (lv_at hl 0 rfl) ?_
  refine lv_iconst (v := 1) hx hb dX7_read_1 (by decide) ?_
  refine th_put (Tp := TyM a E) (Rl := fr [(13, 14), (24, 48), (48, 64), (64, 69), (69, 74)] [9, 11, 13, 15, 21, 22, 23, 24, 25, 26] C) (ci := 7) (v := .int 1) (ty := .int) (CC := RX7) (T := TX7) (N := 29) hx hb htg ig_7 tyX7 tyX7_ok nmX7 hown hK hP hD hS 0 (Nat.lt_of_lt_of_le (by decide) hn) (sM_0 hT) rfl 26 (by decide) (htg _ q_999) (fun _ h9 => h9) rfl (by decide +kernel) rfl rfl (Nat.le_of_ble_eq_true rfl) (hT.up 0 (by decide) ⟨rfl, (fM_0_7 hT), (fM_0_9 hT), (fM_0_11 hT), (fM_0_13 hT), (fM_0_15 hT), (fM_0_21 hT), (fM_0_23 hT)⟩) (fr_fd hF (sM_0 hT) (by decide)) dX7_read_2 (fun C_1 H locs e_2 hT hF hP hD hS => ?_)
  have t_3 := hT
  refine lv_aload_n hx hb dX7_read_5 rfl (lv_at hl 0 rfl) ?_
  refine lv_iconst (v := 0) hx hb dX7_read_6 (by decide) ?_
  refine th_put (Tp := TyM a E) (Rl := fr [(13, 14), (24, 48), (48, 64), (64, 69), (69, 74)] [9, 11, 13, 15, 21, 22, 23, 24, 25, 26] C) (ci := 7) (v := .int 0) (ty := .int) (CC := RX7) (T := TX7) (N := 29) hx hb htg ig_7 tyX7 tyX7_ok nmX7 hown hK hP hD hS 0 (Nat.lt_of_lt_of_le (by decide) hn) (sM_0 hT) rfl 21 (by decide) (htg _ q_994) (fun _ h9 => h9) rfl (by decide +kernel) rfl rfl (Nat.le_of_ble_eq_true rfl) (hT.up 0 (by decide) ⟨rfl, (fM_0_7 hT), (fM_0_9 hT), (fM_0_11 hT), (fM_0_13 hT), (fM_0_15 hT), (rg_w (rg_c (v := 0) (lo := 0) (hi := 0) (by decide)) (by decide)), (fM_0_23 hT)⟩) (fr_fd hF (sM_0 hT) (by decide)) dX7_read_7 (fun C_4 H locs e_5 hT hF hP hD hS => ?_)
  have t_6 := hT
  refine lv_aload_n hx hb dX7_read_10 rfl (lv_at hl 0 rfl) ?_
  have : (gi (C_1 0) 21).toInt = (gi (C 0) 21).toInt := congrArg Int32.toInt (show gi (C_1 0) 21 = gi (C 0) 21 by rw [e_2]; rfl)
  have : (gi (C_1 0) 7).toInt = (gi (C 0) 7).toInt := congrArg Int32.toInt (show gi (C_1 0) 7 = gi (C 0) 7 by rw [e_2]; rfl)
  have : (gi (C_1 0) 23).toInt = (gi (C 0) 23).toInt := congrArg Int32.toInt (show gi (C_1 0) 23 = gi (C 0) 23 by rw [e_2]; rfl)
  have : (gi (C_1 0) 13).toInt = (gi (C 0) 13).toInt := congrArg Int32.toInt (show gi (C_1 0) 13 = gi (C 0) 13 by rw [e_2]; rfl)
  have : (gi (C_4 0) 21).toInt = (0 : Int32).toInt := congrArg Int32.toInt (show gi (C_4 0) 21 = 0 by rw [e_5]; rfl)
  have : (0 : Int32).toInt = 0 := rfl
  have : (gi (C_4 0) 7).toInt = (gi (C_1 0) 7).toInt := congrArg Int32.toInt (show gi (C_4 0) 7 = gi (C_1 0) 7 by rw [e_5]; rfl)
  have : (gi (C_4 0) 23).toInt = (gi (C_1 0) 23).toInt := congrArg Int32.toInt (show gi (C_4 0) 23 = gi (C_1 0) 23 by rw [e_5]; rfl)
  have : (gi (C_4 0) 13).toInt = (gi (C_1 0) 13).toInt := congrArg Int32.toInt (show gi (C_4 0) 13 = gi (C_1 0) 13 by rw [e_5]; rfl)
  have : 0 ≤ (gi (C 0) 21).toInt ∧ (gi (C 0) 21).toInt ≤ 250 := fM_0_21 hT0
  have : 0 ≤ (gi (C 0) 7).toInt ∧ (gi (C 0) 7).toInt ≤ 250 := fM_0_7 hT0
  have : 0 ≤ (gi (C 0) 23).toInt ∧ (gi (C 0) 23).toInt ≤ 250 := fM_0_23 hT0
  have : 0 ≤ (gi (C 0) 13).toInt ∧ (gi (C 0) 13).toInt ≤ 5 := fM_0_13 hT0
  have : 0 ≤ (gi (C_1 0) 21).toInt ∧ (gi (C_1 0) 21).toInt ≤ 250 := fM_0_21 t_3
  have : 0 ≤ (gi (C_1 0) 7).toInt ∧ (gi (C_1 0) 7).toInt ≤ 250 := fM_0_7 t_3
  have : 0 ≤ (gi (C_1 0) 23).toInt ∧ (gi (C_1 0) 23).toInt ≤ 250 := fM_0_23 t_3
  have : 0 ≤ (gi (C_1 0) 13).toInt ∧ (gi (C_1 0) 13).toInt ≤ 5 := fM_0_13 t_3
  have : 0 ≤ (gi (C_4 0) 21).toInt ∧ (gi (C_4 0) 21).toInt ≤ 250 := fM_0_21 t_6
  have : 0 ≤ (gi (C_4 0) 7).toInt ∧ (gi (C_4 0) 7).toInt ≤ 250 := fM_0_7 t_6
  have : 0 ≤ (gi (C_4 0) 23).toInt ∧ (gi (C_4 0) 23).toInt ≤ 250 := fM_0_23 t_6
  have : 0 ≤ (gi (C_4 0) 13).toInt ∧ (gi (C_4 0) 13).toInt ≤ 5 := fM_0_13 t_6
  refine tm_Vv (As := []) (rest := []) ⟨hx, hb, hml, hown, htg⟩ (e_X7_look l D E G _ a C_4 n hn hT (by omega)) (cwV 0 htg (oh_gV q_1197 q_1199 q_39 q_73 q_1200) rfl rfl rfl pdVX7_look ⟨Nat.le_of_ble_eq_true rfl, Nat.le_of_ble_eq_true rfl⟩) hK hP hD hG hS hA (va_recv hK hP (ci := 7) (q0 := 0) rfl (oh_wg (Nat.lt_of_lt_of_le (by decide) hn) (sM_0 hT))) rfl hl.1 rfl (Nat.le_of_ble_eq_true rfl) dX7_read_11 ⟨Nat.le_of_ble_eq_true rfl, Nat.le_of_ble_eq_true rfl⟩ (fun C_8 H locs hq_9 hP hD hS => ?_)
  obtain ⟨hT, f_10, hq_9⟩ := hq_9
  have hF := fr_tr hF f_10 (by decide) (by decide)
  refine W.widen (k := 0) (n := 0) (Nat.le_refl _) (Nat.le_refl _) ?_
  have t_11 := hT
  have ep_12 := hq_9.2.1
  rw [show ga (C_4 7) = ga (C 7) from congrArg ga (Eq.trans (th_un e_5 (by decide)) (th_un e_2 (by decide)))] at ep_12
  refine lv_aload_n hx hb dX7_read_14 rfl (lv_at hl 0 rfl) ?_
  have : (gi (C_8 0) 7).toInt = (gi (C_4 0) 7).toInt := congrArg (fun z => (vi z).toInt) (f_10.2 7 (by decide))
  have : (gi (C_8 0) 13).toInt = (gi (C_4 0) 13).toInt := congrArg (fun z => (vi z).toInt) (f_10.2 13 (by decide))
  have : 0 ≤ (gi (C_8 0) 21).toInt ∧ (gi (C_8 0) 21).toInt ≤ 250 := fM_0_21 t_11
  have : 0 ≤ (gi (C_8 0) 7).toInt ∧ (gi (C_8 0) 7).toInt ≤ 250 := fM_0_7 t_11
  have : 0 ≤ (gi (C_8 0) 23).toInt ∧ (gi (C_8 0) 23).toInt ≤ 250 := fM_0_23 t_11
  have : 0 ≤ (gi (C_8 0) 13).toInt ∧ (gi (C_8 0) 13).toInt ≤ 5 := fM_0_13 t_11
  refine tm_V (As := []) (rest := []) ⟨hx, hb, hml, hown, htg⟩ (e_X7_statement l D E G _ a C_8 n hn hT (by omega) (RelW.fr (RelW.fr (RelW.fr hR (fr_fde (mc := []) (mf := [26]) fr_rf e_2 (sM_0 hT0) (by decide)) (by decide)) (fr_fde (mc := []) (mf := [21]) fr_rf e_5 (sM_0 t_3) (by decide)) (by decide)) f_10 (by decide)) (fgL hq_9.2.2 (f_10.1 7 rfl (by decide))) (by omega)) (cwV 0 htg (oh_gV q_1210 q_1212 q_40 q_73 q_1213) rfl rfl rfl pdVX7_statement ⟨Nat.le_of_ble_eq_true rfl, Nat.le_of_ble_eq_true rfl⟩) hK hP hD hG hS hA (va_recv hK hP (ci := 7) (q0 := 0) rfl (oh_wg (Nat.lt_of_lt_of_le (by decide) hn) (sM_0 hT))) rfl hl.1 rfl (Nat.le_of_ble_eq_true rfl) dX7_read_15 ⟨Nat.le_of_ble_eq_true rfl, Nat.le_of_ble_eq_true rfl⟩ (fun r_13 C_14 H locs hq_15 hP hD hS => ?_)
  obtain ⟨hT, f_16, hq_15⟩ := hq_15
  have hF := fr_tr hF f_16 (by decide) (by decide)
  refine W.widen (k := 0) (n := 0) (Nat.le_refl _) (Nat.le_refl _) ?_
  have t_17 := hT
  refine lv_if_ne (tgt := 23) hx hb dX7_read_18 (by decide) (fun (c_18 : ¬ (r_13 = 0)) => ?_) (fun (c_18 : r_13 = 0) => ?_)
  · have u_19 := hq_15.2.2.1 c_18
    have L_23 : ∀ (d : Nat) (K23 : Nat → va_E) (H : Heap) (locs : List Loc) (ls : Array Slot), (250 - (gi (K23 0) 21).toInt).toNat = d → ((gi (K23 0) 21).toInt ≤ (gi (K23 0) 7).toInt ∧ (gi (C 0) 13).toInt ≤ (gi (K23 0) 13).toInt) → (RelW K23) → (FG K23 ∧ (gi (K23 0) 23).toInt ≤ (gi (K23 0) 21).toInt) → (1 ≤ (gi (K23 0) 26).toInt ∧ 3 * (gi (K23 0) 26).toInt ≤ (gi (K23 0) 21).toInt) → (∀ A0 : LA, absM C A0 → MLp (ga (C 7)) (gi (C 0) 7) A0 K23) → TyM a E K23 → fr [(13, 14), (24, 48), (48, 64), (64, 69), (69, 74)] [9, 11, 13, 15, 21, 22, 23, 24, 25, 26] C K23 → fr [(13, 14), (24, 48), (48, 64), (64, 69), (69, 74)] [9, 11, 13, 15, 21, 22, 23, 24, 25, 26] C_14 K23 → va_P D vwCl (oh_W n a K23) H → va_D A (oh_W n a K23) → va_S A s.heap H locs → lv_has ls 1 [(0, .ref (a 0))] → W p l e ({ frames := 9, cells := 0, slots := 0, locals := 199 }) s m (([.ref (a 0)] : List Value).toArray) below meth c H locs 0 0 Q (F0 m 23 ls []) := by
      intro d
      induction d using Nat.strongRecOn with
      | ind d ih_23 =>
      intro K23  H locs ls hd_23 hv_23 hr_23 hf_23 hk_23 hm_23 hT hF hLF_23 hP hD hS hl
      have t_20 := hT
      have hk26_23 : rg (gi (K23 0) 26) 1 83 := ⟨hk_23.1, by have h7 := hk_23.2; have h8 := (fM_0_21 hT).2; omega⟩
      refine lv_aload_n hx hb dX7_read_23 rfl (lv_at hl 0 rfl) ?_
      refine va_get (D := D) (ci := 7) (v := .int (gi (K23 0) 22)) (C := RX7) (T := TX7) (N := 29) hx hb htg ig_7 hown hK hP 0 (oh_wg (Nat.lt_of_lt_of_le (by decide) hn) (sM_0 hT)) rfl 22 (by decide) (htg _ q_995) (fun _ h9 => h9) rfl dX7_read_24 ?_
      refine lv_if_eq (tgt := 69) hx hb dX7_read_27 (by decide) (fun (c_21 : (gi (K23 0) 22) = 0) => ?_) (fun (c_21 : ¬ ((gi (K23 0) 22) = 0)) => ?_)
      · refine lv_iconst (v := 1) hx hb dX7_read_69 (by decide) ?_
        have : (gi (C_14 0) 7).toInt = (gi (C_8 0) 7).toInt := congrArg (fun z => (vi z).toInt) (f_16.2 7 (by decide))
        have : (gi (K23 0) 7).toInt = (gi (C_14 0) 7).toInt := congrArg (fun z => (vi z).toInt) (hLF_23.2 7 (by decide))
        have : 0 ≤ (gi (C_14 0) 21).toInt ∧ (gi (C_14 0) 21).toInt ≤ 250 := fM_0_21 t_17
        have : 0 ≤ (gi (C_14 0) 7).toInt ∧ (gi (C_14 0) 7).toInt ≤ 250 := fM_0_7 t_17
        have : 0 ≤ (gi (C_14 0) 23).toInt ∧ (gi (C_14 0) 23).toInt ≤ 250 := fM_0_23 t_17
        have : 0 ≤ (gi (C_14 0) 13).toInt ∧ (gi (C_14 0) 13).toInt ≤ 5 := fM_0_13 t_17
        have : 0 ≤ (gi (K23 0) 21).toInt ∧ (gi (K23 0) 21).toInt ≤ 250 := fM_0_21 t_20
        have : 0 ≤ (gi (K23 0) 7).toInt ∧ (gi (K23 0) 7).toInt ≤ 250 := fM_0_7 t_20
        have : 0 ≤ (gi (K23 0) 23).toInt ∧ (gi (K23 0) 23).toInt ≤ 250 := fM_0_23 t_20
        have : 0 ≤ (gi (K23 0) 13).toInt ∧ (gi (K23 0) 13).toInt ≤ 5 := fM_0_13 t_20
        rw [hQ]
        exact W.zret (v := 1) (ty := .boolean) hx hb hr (by decide) (fun t ht hW => ⟨⟨1, K23, rfl, ⟨hT, hF, ⟨(Or.inr rfl), hr_23, (by omega), (fun A0 hA => ⟨fun _ => ML_ok (hm_23 A0 hA) c_21, fun h9 => absurd h9 (by decide)⟩)⟩⟩, ⟨by rw [ht]; exact hP, hD⟩⟩, hS.F ht⟩) hS.2.2 dX7_read_70
      · refine lv_aload_n hx hb dX7_read_30 rfl (lv_at hl 0 rfl) ?_
        refine va_get (D := D) (ci := 7) (v := .int (gi (K23 0) 22)) (C := RX7) (T := TX7) (N := 29) hx hb htg ig_7 hown hK hP 0 (oh_wg (Nat.lt_of_lt_of_le (by decide) hn) (sM_0 hT)) rfl 22 (by decide) (htg _ q_995) (fun _ h9 => h9) rfl dX7_read_31 ?_
        refine lv_iconst (v := 3) hx hb dX7_read_34 (by decide) ?_
        refine lv_icmp_eq (tgt := 43) hx hb dX7_read_35 (by decide) (fun (c_22 : (gi (K23 0) 22) = 3) => ?_) (fun (c_22 : ¬ ((gi (K23 0) 22) = 3)) => ?_)
        · refine lv_aload_n hx hb dX7_read_43 rfl (lv_at hl 0 rfl) ?_
          have : (gi (C_14 0) 7).toInt = (gi (C_8 0) 7).toInt := congrArg (fun z => (vi z).toInt) (f_16.2 7 (by decide))
          have : (gi (K23 0) 7).toInt = (gi (C_14 0) 7).toInt := congrArg (fun z => (vi z).toInt) (hLF_23.2 7 (by decide))
          have : 0 ≤ (gi (C_14 0) 21).toInt ∧ (gi (C_14 0) 21).toInt ≤ 250 := fM_0_21 t_17
          have : 0 ≤ (gi (C_14 0) 7).toInt ∧ (gi (C_14 0) 7).toInt ≤ 250 := fM_0_7 t_17
          have : 0 ≤ (gi (C_14 0) 23).toInt ∧ (gi (C_14 0) 23).toInt ≤ 250 := fM_0_23 t_17
          have : 0 ≤ (gi (C_14 0) 13).toInt ∧ (gi (C_14 0) 13).toInt ≤ 5 := fM_0_13 t_17
          have : 0 ≤ (gi (K23 0) 21).toInt ∧ (gi (K23 0) 21).toInt ≤ 250 := fM_0_21 t_20
          have : 0 ≤ (gi (K23 0) 7).toInt ∧ (gi (K23 0) 7).toInt ≤ 250 := fM_0_7 t_20
          have : 0 ≤ (gi (K23 0) 23).toInt ∧ (gi (K23 0) 23).toInt ≤ 250 := fM_0_23 t_20
          have : 0 ≤ (gi (K23 0) 13).toInt ∧ (gi (K23 0) 13).toInt ≤ 5 := fM_0_13 t_20
          have : ¬ (gi (K23 0) 22).toInt = (0 : Int32).toInt := fun h7 => c_21 (Int32.toInt_inj.mp h7)
          have : (3 : Int32).toInt = 3 := rfl
          refine tm_Vv (As := []) (rest := []) ⟨hx, hb, hml, hown, htg⟩ (e_X7_look l D E G _ a K23 n hn hT (by omega)) (cwV 0 htg (oh_gV q_1197 q_1199 q_39 q_73 q_1200) rfl rfl rfl pdVX7_look ⟨Nat.le_of_ble_eq_true rfl, Nat.le_of_ble_eq_true rfl⟩) hK hP hD hG hS hA (va_recv hK hP (ci := 7) (q0 := 0) rfl (oh_wg (Nat.lt_of_lt_of_le (by decide) hn) (sM_0 hT))) rfl hl.1 rfl (Nat.le_of_ble_eq_true rfl) dX7_read_44 ⟨Nat.le_of_ble_eq_true rfl, Nat.le_of_ble_eq_true rfl⟩ (fun C_24 H locs hq_25 hP hD hS => ?_)
          obtain ⟨hT, f_26, hq_25⟩ := hq_25
          have hF := fr_tr hF f_26 (by decide) (by decide)
          refine W.widen (k := 0) (n := 0) (Nat.le_refl _) (Nat.le_refl _) ?_
          have t_27 := hT
          have ep_28 := hq_25.2.1
          rw [show ga (K23 7) = ga (C 7) from congrArg ga (Eq.trans (hLF_23.1 7 rfl (by decide)) (Eq.trans (f_16.1 7 rfl (by decide)) (Eq.trans (f_10.1 7 rfl (by decide)) (Eq.trans (th_un e_5 (by decide)) (th_un e_2 (by decide))))))] at ep_28
          refine lv_aload_n hx hb dX7_read_47 rfl (lv_at hl 0 rfl) ?_
          have : (gi (C_24 0) 7).toInt = (gi (K23 0) 7).toInt := congrArg (fun z => (vi z).toInt) (f_26.2 7 (by decide))
          have : (gi (C_24 0) 13).toInt = (gi (K23 0) 13).toInt := congrArg (fun z => (vi z).toInt) (f_26.2 13 (by decide))
          have : 0 ≤ (gi (C_24 0) 21).toInt ∧ (gi (C_24 0) 21).toInt ≤ 250 := fM_0_21 t_27
          have : 0 ≤ (gi (C_24 0) 7).toInt ∧ (gi (C_24 0) 7).toInt ≤ 250 := fM_0_7 t_27
          have : 0 ≤ (gi (C_24 0) 23).toInt ∧ (gi (C_24 0) 23).toInt ≤ 250 := fM_0_23 t_27
          have : 0 ≤ (gi (C_24 0) 13).toInt ∧ (gi (C_24 0) 13).toInt ≤ 5 := fM_0_13 t_27
          refine tm_V (As := []) (rest := []) ⟨hx, hb, hml, hown, htg⟩ (e_X7_statement l D E G _ a C_24 n hn hT (by omega) (RelW.fr hr_23 f_26 (by decide)) (fgL hq_25.2.2 (f_26.1 7 rfl (by decide))) (by omega)) (cwV 0 htg (oh_gV q_1210 q_1212 q_40 q_73 q_1213) rfl rfl rfl pdVX7_statement ⟨Nat.le_of_ble_eq_true rfl, Nat.le_of_ble_eq_true rfl⟩) hK hP hD hG hS hA (va_recv hK hP (ci := 7) (q0 := 0) rfl (oh_wg (Nat.lt_of_lt_of_le (by decide) hn) (sM_0 hT))) rfl hl.1 rfl (Nat.le_of_ble_eq_true rfl) dX7_read_48 ⟨Nat.le_of_ble_eq_true rfl, Nat.le_of_ble_eq_true rfl⟩ (fun r_29 C_30 H locs hq_31 hP hD hS => ?_)
          obtain ⟨hT, f_32, hq_31⟩ := hq_31
          have hF := fr_tr hF f_32 (by decide) (by decide)
          refine W.widen (k := 0) (n := 0) (Nat.le_refl _) (Nat.le_refl _) ?_
          have t_33 := hT
          refine lv_if_ne (tgt := 56) hx hb dX7_read_51 (by decide) (fun (c_34 : ¬ (r_29 = 0)) => ?_) (fun (c_34 : r_29 = 0) => ?_)
          · have u_35 := hq_31.2.2.1 c_34
            refine lv_aload_n hx hb dX7_read_56 rfl (lv_at hl 0 rfl) ?_
            refine lv_dup hx hb dX7_read_57 rfl ?_
            refine va_get (D := D) (ci := 7) (v := .int (gi (K23 0) 26)) (C := RX7) (T := TX7) (N := 29) hx hb htg ig_7 hown hK hP 0 (oh_wg (Nat.lt_of_lt_of_le (by decide) hn) (sM_0 hT)) rfl 26 (by decide) (htg _ q_999) (fun _ h9 => h9) (oh_fv (c := C_30 0) (j := 26) rfl (Eq.trans (congrArg vi (f_32.2 26 (by decide))) (congrArg vi (f_26.2 26 (by decide))))) dX7_read_58 ?_
            refine lv_iconst (v := 1) hx hb dX7_read_61 (by decide) ?_
            refine lv_iadd hx hb dX7_read_62 ?_
            refine th_put (Tp := TyM a E) (Rl := fr [(13, 14), (24, 48), (48, 64), (64, 69), (69, 74)] [9, 11, 13, 15, 21, 22, 23, 24, 25, 26] C) (ci := 7) (v := .int ((gi (K23 0) 26) + 1)) (ty := .int) (CC := RX7) (T := TX7) (N := 29) hx hb htg ig_7 tyX7 tyX7_ok nmX7 hown hK hP hD hS 0 (Nat.lt_of_lt_of_le (by decide) hn) (sM_0 hT) rfl 26 (by decide) (htg _ q_999) (fun _ h9 => h9) rfl (by decide +kernel) rfl rfl (Nat.le_of_ble_eq_true rfl) (hT.up 0 (by decide) ⟨rfl, (fM_0_7 hT), (fM_0_9 hT), (fM_0_11 hT), (fM_0_13 hT), (fM_0_15 hT), (fM_0_21 hT), (fM_0_23 hT)⟩) (fr_fd hF (sM_0 hT) (by decide)) dX7_read_63 (fun C_36 H locs e_37 hT hF hP hD hS => ?_)
            have t_38 := hT
            refine lv_goto (tgt := 23) hx hb dX7_read_66 (by decide) ?_
            have : (gi (C_30 0) 7).toInt = (gi (C_24 0) 7).toInt := congrArg (fun z => (vi z).toInt) (f_32.2 7 (by decide))
            have : (gi (C_36 0) 21).toInt = (gi (C_30 0) 21).toInt := congrArg Int32.toInt (show gi (C_36 0) 21 = gi (C_30 0) 21 by rw [e_37]; rfl)
            have : (gi (C_36 0) 7).toInt = (gi (C_30 0) 7).toInt := congrArg Int32.toInt (show gi (C_36 0) 7 = gi (C_30 0) 7 by rw [e_37]; rfl)
            have : (gi (C_36 0) 23).toInt = (gi (C_30 0) 23).toInt := congrArg Int32.toInt (show gi (C_36 0) 23 = gi (C_30 0) 23 by rw [e_37]; rfl)
            have : (gi (C_36 0) 13).toInt = (gi (C_30 0) 13).toInt := congrArg Int32.toInt (show gi (C_36 0) 13 = gi (C_30 0) 13 by rw [e_37]; rfl)
            have : 0 ≤ (gi (C_30 0) 21).toInt ∧ (gi (C_30 0) 21).toInt ≤ 250 := fM_0_21 t_33
            have : 0 ≤ (gi (C_30 0) 7).toInt ∧ (gi (C_30 0) 7).toInt ≤ 250 := fM_0_7 t_33
            have : 0 ≤ (gi (C_30 0) 23).toInt ∧ (gi (C_30 0) 23).toInt ≤ 250 := fM_0_23 t_33
            have : 0 ≤ (gi (C_30 0) 13).toInt ∧ (gi (C_30 0) 13).toInt ≤ 5 := fM_0_13 t_33
            have : 0 ≤ (gi (C_36 0) 21).toInt ∧ (gi (C_36 0) 21).toInt ≤ 250 := fM_0_21 t_38
            have : 0 ≤ (gi (C_36 0) 7).toInt ∧ (gi (C_36 0) 7).toInt ≤ 250 := fM_0_7 t_38
            have : 0 ≤ (gi (C_36 0) 23).toInt ∧ (gi (C_36 0) 23).toInt ≤ 250 := fM_0_23 t_38
            have : 0 ≤ (gi (C_36 0) 13).toInt ∧ (gi (C_36 0) 13).toInt ≤ 5 := fM_0_13 t_38
            have hms_39 := hq_31.2.2.2.2.2.1
            rw [show ga (C_24 7) = ga (C 7) from congrArg ga (Eq.trans (f_26.1 7 rfl (by decide)) (Eq.trans (hLF_23.1 7 rfl (by decide)) (Eq.trans (f_16.1 7 rfl (by decide)) (Eq.trans (f_10.1 7 rfl (by decide)) (Eq.trans (th_un e_5 (by decide)) (th_un e_2 (by decide)))))))] at hms_39
            exact ih_23 _ (hd_23 ▸ (by omega)) C_36  _ _ ls rfl (by omega) (RelW.fr hq_31.2.2.2.1 (fr_fde (mc := []) (mf := [26]) fr_rf e_37 (sM_0 t_33) (by decide)) (by decide)) ⟨(fgF (j := 26) hq_31.2.2.2.2.2.2.1 e_37 (sM_0 t_33) (by decide)), (by omega)⟩ ⟨by rw [show gi (C_36 0) 26 = (gi (K23 0) 26) + 1 from (show gi (C_36 0) 26 = ((gi (K23 0) 26) + 1) by rw [e_37]; rfl), oh_incr hk26_23 (by decide)]; have h7 := hk_23.1; omega, by rw [show gi (C_36 0) 26 = (gi (K23 0) 26) + 1 from (show gi (C_36 0) 26 = ((gi (K23 0) 26) + 1) by rw [e_37]; rfl), oh_incr hk26_23 (by decide)]; have h7 := hk_23.2; omega⟩ (fun A0 hA => ML_s t_20 (hm_23 A0 hA) c_21 c_22 (rg_w hk26_23 (by decide)) ep_28 (fun A h7 => absM_fr h7 t_20 (show fr [] [21, 22, 23, 24] K23 C_24 from (fr_tr fr_rf f_26 (by decide) (by decide))) (by decide) (by decide) (by decide)) hms_39 c_34 (fun A h7 => absM_fr h7 t_33 (show fr [] [26] C_30 C_36 from (fr_fde fr_rf e_37 (sM_0 t_33) (by decide))) (by decide) (by decide) (by decide)) (pm_fd (j := 26) e_37 (sM_0 t_33) (by decide)) (show gi (C_36 0) 26 = ((gi (K23 0) 26) + 1) by rw [e_37]; rfl)) hT hF (fr_fde (fr_tr (fr_tr hLF_23 f_26 (by decide) (by decide)) f_32 (by decide) (by decide)) e_37 (sM_0 t_33) (by decide)) hP hD hS (lv_sub hl [0] rfl)
          · refine lv_iconst (v := 0) hx hb dX7_read_54 (by decide) ?_
            have : (gi (C_30 0) 7).toInt = (gi (C_24 0) 7).toInt := congrArg (fun z => (vi z).toInt) (f_32.2 7 (by decide))
            have : 0 ≤ (gi (C_30 0) 21).toInt ∧ (gi (C_30 0) 21).toInt ≤ 250 := fM_0_21 t_33
            have : 0 ≤ (gi (C_30 0) 7).toInt ∧ (gi (C_30 0) 7).toInt ≤ 250 := fM_0_7 t_33
            have : 0 ≤ (gi (C_30 0) 23).toInt ∧ (gi (C_30 0) 23).toInt ≤ 250 := fM_0_23 t_33
            have : 0 ≤ (gi (C_30 0) 13).toInt ∧ (gi (C_30 0) 13).toInt ≤ 5 := fM_0_13 t_33
            have hms_40 := hq_31.2.2.2.2.2.1
            rw [show ga (C_24 7) = ga (C 7) from congrArg ga (Eq.trans (f_26.1 7 rfl (by decide)) (Eq.trans (hLF_23.1 7 rfl (by decide)) (Eq.trans (f_16.1 7 rfl (by decide)) (Eq.trans (f_10.1 7 rfl (by decide)) (Eq.trans (th_un e_5 (by decide)) (th_un e_2 (by decide)))))))] at hms_40
            rw [hQ]
            exact W.zret (v := 0) (ty := .boolean) hx hb hr (by decide) (fun t ht hW => ⟨⟨0, C_30, rfl, ⟨hT, hF, ⟨(Or.inl rfl), hq_31.2.2.2.1, (by omega), (fun A0 hA => ⟨fun h9 => absurd rfl h9, fun _ => ML_se (hm_23 A0 hA) c_21 c_22 (rg_w hk26_23 (by decide)) ep_28 (fun A h7 => absM_fr h7 t_20 (show fr [] [21, 22, 23, 24] K23 C_24 from (fr_tr fr_rf f_26 (by decide) (by decide))) (by decide) (by decide) (by decide)) hms_40 c_34⟩)⟩⟩, ⟨by rw [ht]; exact hP, hD⟩⟩, hS.F ht⟩) hS.2.2 dX7_read_55
        · refine lv_aload_n hx hb dX7_read_38 rfl (lv_at hl 0 rfl) ?_
          refine tm_V (As := []) (rest := []) ⟨hx, hb, hml, hown, htg⟩ (e_X7_wrong l D E G _ a K23 n hn hT) (cwV 0 htg (oh_gV q_1229 q_1231 q_44 q_73 q_1232) rfl rfl rfl pdVX7_wrong ⟨Nat.le_of_ble_eq_true rfl, Nat.le_of_ble_eq_true rfl⟩) hK hP hD hG hS hA (va_recv hK hP (ci := 7) (q0 := 0) rfl (oh_wg (Nat.lt_of_lt_of_le (by decide) hn) (sM_0 hT))) rfl hl.1 rfl (Nat.le_of_ble_eq_true rfl) dX7_read_39 ⟨Nat.le_of_ble_eq_true rfl, Nat.le_of_ble_eq_true rfl⟩ (fun r_41 C_42 H locs hq_43 hP hD hS => ?_)
          obtain ⟨hT, f_44, hq_43⟩ := hq_43
          have hF := fr_tr hF f_44 (by decide) (by decide)
          refine W.widen (k := 0) (n := 0) (Nat.le_refl _) (Nat.le_refl _) ?_
          have t_45 := hT
          have : (gi (C_14 0) 7).toInt = (gi (C_8 0) 7).toInt := congrArg (fun z => (vi z).toInt) (f_16.2 7 (by decide))
          have : (gi (K23 0) 7).toInt = (gi (C_14 0) 7).toInt := congrArg (fun z => (vi z).toInt) (hLF_23.2 7 (by decide))
          have : (gi (C_42 0) 21).toInt = (gi (K23 0) 21).toInt := congrArg (fun z => (vi z).toInt) (f_44.2 21 (by decide))
          have : (gi (C_42 0) 7).toInt = (gi (K23 0) 7).toInt := congrArg (fun z => (vi z).toInt) (f_44.2 7 (by decide))
          have : (gi (C_42 0) 23).toInt = (gi (K23 0) 23).toInt := congrArg (fun z => (vi z).toInt) (f_44.2 23 (by decide))
          have : (gi (C_42 0) 13).toInt = (gi (K23 0) 13).toInt := congrArg (fun z => (vi z).toInt) (f_44.2 13 (by decide))
          have : 0 ≤ (gi (C_14 0) 21).toInt ∧ (gi (C_14 0) 21).toInt ≤ 250 := fM_0_21 t_17
          have : 0 ≤ (gi (C_14 0) 7).toInt ∧ (gi (C_14 0) 7).toInt ≤ 250 := fM_0_7 t_17
          have : 0 ≤ (gi (C_14 0) 23).toInt ∧ (gi (C_14 0) 23).toInt ≤ 250 := fM_0_23 t_17
          have : 0 ≤ (gi (C_14 0) 13).toInt ∧ (gi (C_14 0) 13).toInt ≤ 5 := fM_0_13 t_17
          have : 0 ≤ (gi (K23 0) 21).toInt ∧ (gi (K23 0) 21).toInt ≤ 250 := fM_0_21 t_20
          have : 0 ≤ (gi (K23 0) 7).toInt ∧ (gi (K23 0) 7).toInt ≤ 250 := fM_0_7 t_20
          have : 0 ≤ (gi (K23 0) 23).toInt ∧ (gi (K23 0) 23).toInt ≤ 250 := fM_0_23 t_20
          have : 0 ≤ (gi (K23 0) 13).toInt ∧ (gi (K23 0) 13).toInt ≤ 5 := fM_0_13 t_20
          have : 0 ≤ (gi (C_42 0) 21).toInt ∧ (gi (C_42 0) 21).toInt ≤ 250 := fM_0_21 t_45
          have : 0 ≤ (gi (C_42 0) 7).toInt ∧ (gi (C_42 0) 7).toInt ≤ 250 := fM_0_7 t_45
          have : 0 ≤ (gi (C_42 0) 23).toInt ∧ (gi (C_42 0) 23).toInt ≤ 250 := fM_0_23 t_45
          have : 0 ≤ (gi (C_42 0) 13).toInt ∧ (gi (C_42 0) 13).toInt ≤ 5 := fM_0_13 t_45
          have : ¬ (gi (K23 0) 22).toInt = (0 : Int32).toInt := fun h7 => c_21 (Int32.toInt_inj.mp h7)
          have : (3 : Int32).toInt = 3 := rfl
          have : ¬ (gi (K23 0) 22).toInt = (3 : Int32).toInt := fun h7 => c_22 (Int32.toInt_inj.mp h7)
          rw [hQ]
          exact W.zret (v := r_41) (ty := .boolean) hx hb hr (oh_nb hq_43.1) (fun t ht hW => ⟨⟨r_41, C_42, rfl, ⟨hT, hF, ⟨hq_43.1, (RelW.fr hr_23 f_44 (by decide)), (by omega), (fun A0 hA => ⟨fun h9 => absurd hq_43.2.1 h9, fun _ => ML_w (fl := 0) (hm_23 A0 hA) c_21 c_22 (rg_w hk26_23 (by decide)) hq_43.2.2 (fun A h7 => absM_fr h7 t_20 (show fr [] [25] K23 C_42 from (fr_tr fr_rf f_44 (by decide) (by decide))) (by decide) (by decide) (by decide))⟩)⟩⟩, ⟨by rw [ht]; exact hP, hD⟩⟩, hS.F ht⟩) hS.2.2 dX7_read_42
    have : (gi (C_14 0) 7).toInt = (gi (C_8 0) 7).toInt := congrArg (fun z => (vi z).toInt) (f_16.2 7 (by decide))
    have : 0 ≤ (gi (C_14 0) 21).toInt ∧ (gi (C_14 0) 21).toInt ≤ 250 := fM_0_21 t_17
    have : 0 ≤ (gi (C_14 0) 7).toInt ∧ (gi (C_14 0) 7).toInt ≤ 250 := fM_0_7 t_17
    have : 0 ≤ (gi (C_14 0) 23).toInt ∧ (gi (C_14 0) 23).toInt ≤ 250 := fM_0_23 t_17
    have : 0 ≤ (gi (C_14 0) 13).toInt ∧ (gi (C_14 0) 13).toInt ≤ 5 := fM_0_13 t_17
    have hms_46 := hq_15.2.2.2.2.2.1
    rw [show ga (C_8 7) = ga (C 7) from congrArg ga (Eq.trans (f_10.1 7 rfl (by decide)) (Eq.trans (th_un e_5 (by decide)) (th_un e_2 (by decide))))] at hms_46
    exact L_23 _ C_14  _ _ ls rfl (by omega) hq_15.2.2.2.1 ⟨hq_15.2.2.2.2.2.2.1, (by omega)⟩ ⟨by rw [show gi (C_14 0) 26 = 1 from (Eq.trans (congrArg vi (f_16.2 26 (by decide))) (Eq.trans (congrArg vi (f_10.2 26 (by decide))) (Eq.trans (show gi (C_4 0) 26 = gi (C_1 0) 26 by rw [e_5]; rfl) (show gi (C_1 0) 26 = (1 : Int32) by rw [e_2]; rfl))))]; decide, by rw [show gi (C_14 0) 26 = 1 from (Eq.trans (congrArg vi (f_16.2 26 (by decide))) (Eq.trans (congrArg vi (f_10.2 26 (by decide))) (Eq.trans (show gi (C_4 0) 26 = gi (C_1 0) 26 by rw [e_5]; rfl) (show gi (C_1 0) 26 = (1 : Int32) by rw [e_2]; rfl)))), show (1 : Int32).toInt = 1 from rfl]; omega⟩ (fun A0 hA => ML_0 t_11 ((fun A h7 => absM_fr h7 hT0 (show fr [] [21, 22, 23, 24, 26] C C_8 from (fr_tr (fr_fde (fr_fde fr_rf e_2 (sM_0 hT0) (by decide)) e_5 (sM_0 t_3) (by decide)) f_10 (by decide) (by decide))) (by decide) (by decide) (by decide)) A0 hA) (Eq.trans ep_12 (congrArg (xAdv (ga (C 7))) (pm_mk (Eq.trans (show gi (C_4 0) 7 = gi (C_1 0) 7 by rw [e_5]; rfl) (show gi (C_1 0) 7 = gi (C 0) 7 by rw [e_2]; rfl)) (Eq.trans (show gi (C_4 0) 22 = gi (C_1 0) 22 by rw [e_5]; rfl) (show gi (C_1 0) 22 = gi (C 0) 22 by rw [e_2]; rfl)) (Eq.trans (show gi (C_4 0) 23 = gi (C_1 0) 23 by rw [e_5]; rfl) (show gi (C_1 0) 23 = gi (C 0) 23 by rw [e_2]; rfl)) (show gi (C_4 0) 21 = (0 : Int32) by rw [e_5]; rfl)))) (hms_46 A0 ((fun A h7 => absM_fr h7 hT0 (show fr [] [21, 22, 23, 24, 26] C C_8 from (fr_tr (fr_fde (fr_fde fr_rf e_2 (sM_0 hT0) (by decide)) e_5 (sM_0 t_3) (by decide)) f_10 (by decide) (by decide))) (by decide) (by decide) (by decide)) A0 hA)) c_18 (Eq.trans (congrArg vi (f_16.2 26 (by decide))) (Eq.trans (congrArg vi (f_10.2 26 (by decide))) (Eq.trans (show gi (C_4 0) 26 = gi (C_1 0) 26 by rw [e_5]; rfl) (show gi (C_1 0) 26 = (1 : Int32) by rw [e_2]; rfl))))) hT hF fr_rf hP hD hS (lv_sub hl [0] rfl)
  · refine lv_iconst (v := 0) hx hb dX7_read_21 (by decide) ?_
    have : (gi (C_14 0) 7).toInt = (gi (C_8 0) 7).toInt := congrArg (fun z => (vi z).toInt) (f_16.2 7 (by decide))
    have : 0 ≤ (gi (C_14 0) 21).toInt ∧ (gi (C_14 0) 21).toInt ≤ 250 := fM_0_21 t_17
    have : 0 ≤ (gi (C_14 0) 7).toInt ∧ (gi (C_14 0) 7).toInt ≤ 250 := fM_0_7 t_17
    have : 0 ≤ (gi (C_14 0) 23).toInt ∧ (gi (C_14 0) 23).toInt ≤ 250 := fM_0_23 t_17
    have : 0 ≤ (gi (C_14 0) 13).toInt ∧ (gi (C_14 0) 13).toInt ≤ 5 := fM_0_13 t_17
    have hms_47 := hq_15.2.2.2.2.2.1
    rw [show ga (C_8 7) = ga (C 7) from congrArg ga (Eq.trans (f_10.1 7 rfl (by decide)) (Eq.trans (th_un e_5 (by decide)) (th_un e_2 (by decide))))] at hms_47
    rw [hQ]
    exact W.zret (v := 0) (ty := .boolean) hx hb hr (by decide) (fun t ht hW => ⟨⟨0, C_14, rfl, ⟨hT, hF, ⟨(Or.inl rfl), hq_15.2.2.2.1, (by omega), (fun A0 hA => ⟨fun h9 => absurd rfl h9, fun _ => ML_0e (a := a) (E := E) ((fun A h7 => absM_fr h7 hT0 (show fr [] [21, 22, 23, 24, 26] C C_8 from (fr_tr (fr_fde (fr_fde fr_rf e_2 (sM_0 hT0) (by decide)) e_5 (sM_0 t_3) (by decide)) f_10 (by decide) (by decide))) (by decide) (by decide) (by decide)) A0 hA) (Eq.trans ep_12 (congrArg (xAdv (ga (C 7))) (pm_mk (Eq.trans (show gi (C_4 0) 7 = gi (C_1 0) 7 by rw [e_5]; rfl) (show gi (C_1 0) 7 = gi (C 0) 7 by rw [e_2]; rfl)) (Eq.trans (show gi (C_4 0) 22 = gi (C_1 0) 22 by rw [e_5]; rfl) (show gi (C_1 0) 22 = gi (C 0) 22 by rw [e_2]; rfl)) (Eq.trans (show gi (C_4 0) 23 = gi (C_1 0) 23 by rw [e_5]; rfl) (show gi (C_1 0) 23 = gi (C 0) 23 by rw [e_2]; rfl)) (show gi (C_4 0) 21 = (0 : Int32) by rw [e_5]; rfl)))) (hms_47 A0 ((fun A h7 => absM_fr h7 hT0 (show fr [] [21, 22, 23, 24, 26] C C_8 from (fr_tr (fr_fde (fr_fde fr_rf e_2 (sM_0 hT0) (by decide)) e_5 (sM_0 t_3) (by decide)) f_10 (by decide) (by decide))) (by decide) (by decide) (by decide)) A0 hA)) c_18⟩)⟩⟩, ⟨by rw [ht]; exact hP, hD⟩⟩, hS.F ht⟩) hS.2.2 dX7_read_22

theorem all4 {P : Nat → Prop} (h0 : P 0) (h1 : P 1) (h2 : P 2) (h3 : P 3) : ∀ s, s < 4 → P s := by
  intro s hs
  rcases (show s = 0 ∨ s = 1 ∨ s = 2 ∨ s = 3 by omega) with rfl | rfl | rfl | rfl
  · exact h0
  · exact h1
  · exact h2
  · exact h3
theorem u13 {g h : Nat → Int32} {x y : Int32} (e : h = upd (upd g ((0 : Int32)).toNatClampNeg x) ((1 : Int32)).toNatClampNeg y) : h 0 = x ∧ h 1 = y ∧ h 2 = g 2 := by
  rw [e]
  exact ⟨rfl, rfl, rfl⟩
theorem two2 {P : Nat → Prop} (h0 : P 0) (h1 : P 1) : ∀ s, s < 2 → P s := by
  intro s hs
  rcases (show s = 0 ∨ s = 1 by omega) with rfl | rfl
  · exact h0
  · exact h1

set_option maxHeartbeats 4000000 in
set_option maxRecDepth 100000 in
theorem e_X7_land (l : Launch) (D : va_G) (E : Nat → ClassId) (G : Nat → Nat) (sz : Nat) (a : Nat → Nat) (C : Nat → va_E) (n : Nat) (hn : 74 ≤ n) (hT : TyM a E C) (hR : RelM C) : Met l yX7_land (oh_w yX7_land cX7_land 8 (some .int)) ({ frames := 10, cells := 0, slots := 0, locals := 219 }) (oh_Pm D E G [.ref (a 0)] (oh_W n a C) sz) (va_Qi (fun r (u : Nat → va_E) => TyM a E u ∧ fr [(8, 9), (13, 14), (24, 48), (48, 64), (64, 69), (69, 74)] [7, 9, 11, 13, 15, 21, 22, 23, 24, 25, 26] C u ∧ (RelM u) ∧ (gi (u 0) 7 = 0) ∧ (∀ A0 : LA, absM C A0 → ∃ B : LA, LandR (rdTot (ga (C 7)) (gi (C 0) 7) A0) A0 B r ∧ absM u B)) (oh_B D (va_A (oh_W n a C) sz) (fun u => oh_W n a u)) (va_A (oh_W n a C) sz)) 0 0 (va_A (oh_W n a C) sz) := by
  refine Met.ofW (cc := cX7_land) (maxL := 8) (ret := (some .int)) (by decide) rfl ?_
  intro p e s m args below meth c s₁ B hml hv
  obtain ⟨rfl, hsz, hP, hK, hD0, hG⟩ := hv
  have hx := B.exec
  have hb := B.bytes
  have hr := B.returns
  have hts := atoms_spec (ws := (oh_w yX7_land cX7_land 8 (some .int))) B.pre
  have htg : ∀ w ∈ oh_t, w.before _ s = true := fun w h => hts w (List.mem_cons_of_mem _ h)
  have hown : s.vm.findClass RX7 = some m.cls := findClass_of_methodNamed B.named
  have hlocks := B.notSynchronized
  have hT0 := hT
  subst hsz
  have hD := hD0.self (sz := s.heap.size)
  generalize hAe : va_A (oh_W n a C) s.heap.size = A at hD hG ⊢
  have hA : ∀ q : Nat, s.heap.size ≤ q → A q := fun q h => by rw [← hAe]; exact Or.inr h
  have hS : va_S A s.heap s.heap [] := va_S.rf
  have hF : fr [(8, 9), (13, 14), (24, 48), (48, 64), (64, 69), (69, 74)] [7, 9, 11, 13, 15, 21, 22, 23, 24, 25, 26] C C := fr_rf
  have hl := lv_entry ([.ref (a 0)]) (n := 8) (Nat.le_of_ble_eq_true rfl)
  rw [lg_entry_eq]
  generalize (lg_sl ([.ref (a 0)]) ++ List.replicate (8 - (lg_sl ([.ref (a 0)])).length) Slot.unset).toArray = ls at hl ⊢
  have hl : lv_has ls 8 [(0, .ref (a 0))] := hl
  refine oh_genQ (fun Q hQ => ?_)
  refine lv_aload_n hx hb dX7_land_0 rfl (lv_at hl 0 rfl) ?_
  refine va_get (D := D) (ci := 7) (v := .int (gi (C 0) 9)) (C := RX7) (T := TX7) (N := 29) hx hb htg ig_7 hown hK hP 0 (oh_wg (Nat.lt_of_lt_of_le (by decide) hn) (sM_0 hT)) rfl 9 (by decide) (htg _ q_982) (fun _ h9 => h9) rfl dX7_land_1 ?_
  refine lv_istore_n (lv' := [(1, .int (gi (C 0) 9)), (0, .ref (a 0))]) hx hb dX7_land_4 rfl hl (by decide) rfl (fun ls hl => ?_)
  refine lv_aload_n hx hb dX7_land_5 rfl (lv_at hl 1 rfl) ?_
  refine va_get (D := D) (ci := 7) (v := .int (gi (C 0) 11)) (C := RX7) (T := TX7) (N := 29) hx hb htg ig_7 hown hK hP 0 (oh_wg (Nat.lt_of_lt_of_le (by decide) hn) (sM_0 hT)) rfl 11 (by decide) (htg _ q_984) (fun _ h9 => h9) rfl dX7_land_6 ?_
  refine lv_istore_n (lv' := [(2, .int (gi (C 0) 11)), (1, .int (gi (C 0) 9)), (0, .ref (a 0))]) hx hb dX7_land_9 rfl hl (by decide) rfl (fun ls hl => ?_)
  refine lv_aload_n hx hb dX7_land_10 rfl (lv_at hl 2 rfl) ?_
  refine va_get (D := D) (ci := 7) (v := .int (gi (C 0) 13)) (C := RX7) (T := TX7) (N := 29) hx hb htg ig_7 hown hK hP 0 (oh_wg (Nat.lt_of_lt_of_le (by decide) hn) (sM_0 hT)) rfl 13 (by decide) (htg _ q_986) (fun _ h9 => h9) rfl dX7_land_11 ?_
  refine lv_istore_n (lv' := [(3, .int (gi (C 0) 13)), (2, .int (gi (C 0) 11)), (1, .int (gi (C 0) 9)), (0, .ref (a 0))]) hx hb dX7_land_14 rfl hl (by decide) rfl (fun ls hl => ?_)
  refine lv_aload_n hx hb dX7_land_15 rfl (lv_at hl 3 rfl) ?_
  refine va_get (D := D) (ci := 7) (v := .int (gi (C 0) 15)) (C := RX7) (T := TX7) (N := 29) hx hb htg ig_7 hown hK hP 0 (oh_wg (Nat.lt_of_lt_of_le (by decide) hn) (sM_0 hT)) rfl 15 (by decide) (htg _ q_988) (fun _ h9 => h9) rfl dX7_land_16 ?_
  refine lv_istore (lv' := [(4, .int (gi (C 0) 15)), (3, .int (gi (C 0) 13)), (2, .int (gi (C 0) 11)), (1, .int (gi (C 0) 9)), (0, .ref (a 0))]) hx hb dX7_land_19 hl (by decide) rfl (fun ls hl => ?_)
  refine lv_aload_n hx hb dX7_land_21 rfl (lv_at hl 4 rfl) ?_
  refine va_get (D := D) (ci := 7) (v := .ref (a 13)) (C := RX7) (T := TX7) (N := 29) hx hb htg ig_7 hown hK hP 0 (oh_wg (Nat.lt_of_lt_of_le (by decide) hn) (sM_0 hT)) rfl 17 (by decide) (htg _ q_990) (fun _ h9 => h9) rfl dX7_land_22 ?_
  refine lv_iconst (v := 0) hx hb dX7_land_25 (by decide) ?_
  refine th_iald hx hb hK hP 13 (Nat.lt_of_lt_of_le (by decide) hn) (sM_13 hT) (rg_in (rg_c (v := 0) (lo := 0) (hi := 0) (by decide)) (by decide)) dX7_land_26 ?_
  refine lv_istore (lv' := [(5, .int (ga (C 13) ((0 : Int32)).toNatClampNeg)), (4, .int (gi (C 0) 15)), (3, .int (gi (C 0) 13)), (2, .int (gi (C 0) 11)), (1, .int (gi (C 0) 9)), (0, .ref (a 0))]) hx hb dX7_land_27 hl (by decide) rfl (fun ls hl => ?_)
  refine lv_aload_n hx hb dX7_land_29 rfl (lv_at hl 5 rfl) ?_
  refine va_get (D := D) (ci := 7) (v := .ref (a 13)) (C := RX7) (T := TX7) (N := 29) hx hb htg ig_7 hown hK hP 0 (oh_wg (Nat.lt_of_lt_of_le (by decide) hn) (sM_0 hT)) rfl 17 (by decide) (htg _ q_990) (fun _ h9 => h9) rfl dX7_land_30 ?_
  refine lv_iconst (v := 1) hx hb dX7_land_33 (by decide) ?_
  refine th_iald hx hb hK hP 13 (Nat.lt_of_lt_of_le (by decide) hn) (sM_13 hT) (rg_in (rg_c (v := 1) (lo := 1) (hi := 1) (by decide)) (by decide)) dX7_land_34 ?_
  refine lv_istore (lv' := [(6, .int (ga (C 13) ((1 : Int32)).toNatClampNeg)), (5, .int (ga (C 13) ((0 : Int32)).toNatClampNeg)), (4, .int (gi (C 0) 15)), (3, .int (gi (C 0) 13)), (2, .int (gi (C 0) 11)), (1, .int (gi (C 0) 9)), (0, .ref (a 0))]) hx hb dX7_land_35 hl (by decide) rfl (fun ls hl => ?_)
  refine lv_aload_n hx hb dX7_land_37 rfl (lv_at hl 6 rfl) ?_
  refine tm_V (As := []) (rest := []) ⟨hx, hb, hml, hown, htg⟩ (e_X7_read l D E G _ a C n hn hT hR.1) (cwV 0 htg (oh_gV q_1193 q_1195 q_38 q_73 q_1196) rfl rfl rfl pdVX7_read ⟨Nat.le_of_ble_eq_true rfl, Nat.le_of_ble_eq_true rfl⟩) hK hP hD hG hS hA (va_recv hK hP (ci := 7) (q0 := 0) rfl (oh_wg (Nat.lt_of_lt_of_le (by decide) hn) (sM_0 hT))) rfl hl.1 rfl (Nat.le_of_ble_eq_true rfl) dX7_land_38 ⟨Nat.le_of_ble_eq_true rfl, Nat.le_of_ble_eq_true rfl⟩ (fun r_1 C_2 H locs hq_3 hP hD hS => ?_)
  obtain ⟨hT, f_4, hq_3⟩ := hq_3
  have hF := fr_tr hF f_4 (by decide) (by decide)
  refine W.widen (k := 0) (n := 0) (Nat.le_refl _) (Nat.le_refl _) ?_
  have t_5 := hT
  refine lv_istore (lv' := [(7, .int r_1), (6, .int (ga (C 13) ((1 : Int32)).toNatClampNeg)), (5, .int (ga (C 13) ((0 : Int32)).toNatClampNeg)), (4, .int (gi (C 0) 15)), (3, .int (gi (C 0) 13)), (2, .int (gi (C 0) 11)), (1, .int (gi (C 0) 9)), (0, .ref (a 0))]) hx hb dX7_land_41 hl (by decide) rfl (fun ls hl => ?_)
  refine lv_aload_n hx hb dX7_land_43 rfl (lv_at hl 7 rfl) ?_
  refine lv_iconst (v := 0) hx hb dX7_land_44 (by decide) ?_
  refine th_put (Tp := TyM a E) (Rl := fr [(8, 9), (13, 14), (24, 48), (48, 64), (64, 69), (69, 74)] [7, 9, 11, 13, 15, 21, 22, 23, 24, 25, 26] C) (ci := 7) (v := .int 0) (ty := .int) (CC := RX7) (T := TX7) (N := 29) hx hb htg ig_7 tyX7 tyX7_ok nmX7 hown hK hP hD hS 0 (Nat.lt_of_lt_of_le (by decide) hn) (sM_0 hT) rfl 7 (by decide) (htg _ q_980) (fun _ h9 => h9) rfl (by decide +kernel) rfl rfl (Nat.le_of_ble_eq_true rfl) (hT.up 0 (by decide) ⟨rfl, (rg_w (rg_c (v := 0) (lo := 0) (hi := 0) (by decide)) (by decide)), (fM_0_9 hT), (fM_0_11 hT), (fM_0_13 hT), (fM_0_15 hT), (fM_0_21 hT), (fM_0_23 hT)⟩) (fr_fd hF (sM_0 hT) (by decide)) dX7_land_45 (fun C_6 H locs e_7 hT hF hP hD hS => ?_)
  have t_8 := hT
  refine lv_iload hx hb dX7_land_48 (lv_at hl 0 rfl) ?_
  refine lv_if_ne (tgt := 105) hx hb dX7_land_50 (by decide) (fun (c_9 : ¬ (r_1 = 0)) => ?_) (fun (c_9 : r_1 = 0) => ?_)
  · refine lv_aload_n hx hb dX7_land_105 rfl (lv_at hl 7 rfl) ?_
    refine va_get (D := D) (ci := 7) (v := .int (gi (C_2 0) 26)) (C := RX7) (T := TX7) (N := 29) hx hb htg ig_7 hown hK hP 0 (oh_wg (Nat.lt_of_lt_of_le (by decide) hn) (sM_0 hT)) rfl 26 (by decide) (htg _ q_999) (fun _ h9 => h9) (oh_fv (c := C_6 0) (j := 26) rfl (show gi (C_6 0) 26 = gi (C_2 0) 26 by rw [e_7]; rfl)) dX7_land_106 ?_
    rw [hQ]
    exact W.iret (v := gi (C_2 0) 26) hx hb hr (fun t ht hW => ⟨⟨gi (C_2 0) 26, C_6, rfl, ⟨hT, hF, ⟨⟨(RelW.fr hq_3.2.1 (fr_fde (mc := []) (mf := [7]) fr_rf e_7 (sM_0 t_5) (by decide)) (by decide)), hR.2.fr hF (by decide)⟩, (show gi (C_6 0) 7 = (0 : Int32) by rw [e_7]; rfl), (fun A0 hA => mland_ok (hq_3.2.2.2 A0 hA) c_9 rfl (fun A h7 => absM_fr h7 t_5 (show fr [] [7] C_2 C_6 from (fr_fde fr_rf e_7 (sM_0 t_5) (by decide))) (by decide) (by decide) (by decide)))⟩⟩, ⟨by rw [ht]; exact hP, hD⟩⟩, hS.F ht⟩) hS.2.2 dX7_land_109
  · refine lv_aload_n hx hb dX7_land_53 rfl (lv_at hl 7 rfl) ?_
    refine lv_iload_n hx hb dX7_land_54 rfl (lv_at hl 6 rfl) ?_
    refine th_put (Tp := TyM a E) (Rl := fr [(8, 9), (13, 14), (24, 48), (48, 64), (64, 69), (69, 74)] [7, 9, 11, 13, 15, 21, 22, 23, 24, 25, 26] C) (ci := 7) (v := .int (gi (C 0) 9)) (ty := .int) (CC := RX7) (T := TX7) (N := 29) hx hb htg ig_7 tyX7 tyX7_ok nmX7 hown hK hP hD hS 0 (Nat.lt_of_lt_of_le (by decide) hn) (sM_0 hT) rfl 9 (by decide) (htg _ q_982) (fun _ h9 => h9) rfl (by decide +kernel) rfl rfl (Nat.le_of_ble_eq_true rfl) (hT.up 0 (by decide) ⟨rfl, (fM_0_7 hT), (rg_w (fM_0_9 hT0) (by decide)), (fM_0_11 hT), (fM_0_13 hT), (fM_0_15 hT), (fM_0_21 hT), (fM_0_23 hT)⟩) (fr_fd hF (sM_0 hT) (by decide)) dX7_land_55 (fun C_10 H locs e_11 hT hF hP hD hS => ?_)
    have t_12 := hT
    refine lv_aload_n hx hb dX7_land_58 rfl (lv_at hl 7 rfl) ?_
    refine lv_iload_n hx hb dX7_land_59 rfl (lv_at hl 5 rfl) ?_
    refine th_put (Tp := TyM a E) (Rl := fr [(8, 9), (13, 14), (24, 48), (48, 64), (64, 69), (69, 74)] [7, 9, 11, 13, 15, 21, 22, 23, 24, 25, 26] C) (ci := 7) (v := .int (gi (C 0) 11)) (ty := .int) (CC := RX7) (T := TX7) (N := 29) hx hb htg ig_7 tyX7 tyX7_ok nmX7 hown hK hP hD hS 0 (Nat.lt_of_lt_of_le (by decide) hn) (sM_0 hT) rfl 11 (by decide) (htg _ q_984) (fun _ h9 => h9) rfl (by decide +kernel) rfl rfl (Nat.le_of_ble_eq_true rfl) (hT.up 0 (by decide) ⟨rfl, (fM_0_7 hT), (fM_0_9 hT), (rg_w (fM_0_11 hT0) (by decide)), (fM_0_13 hT), (fM_0_15 hT), (fM_0_21 hT), (fM_0_23 hT)⟩) (fr_fd hF (sM_0 hT) (by decide)) dX7_land_60 (fun C_13 H locs e_14 hT hF hP hD hS => ?_)
    have t_15 := hT
    refine lv_aload_n hx hb dX7_land_63 rfl (lv_at hl 7 rfl) ?_
    refine lv_iload_n hx hb dX7_land_64 rfl (lv_at hl 4 rfl) ?_
    refine th_put (Tp := TyM a E) (Rl := fr [(8, 9), (13, 14), (24, 48), (48, 64), (64, 69), (69, 74)] [7, 9, 11, 13, 15, 21, 22, 23, 24, 25, 26] C) (ci := 7) (v := .int (gi (C 0) 13)) (ty := .int) (CC := RX7) (T := TX7) (N := 29) hx hb htg ig_7 tyX7 tyX7_ok nmX7 hown hK hP hD hS 0 (Nat.lt_of_lt_of_le (by decide) hn) (sM_0 hT) rfl 13 (by decide) (htg _ q_986) (fun _ h9 => h9) rfl (by decide +kernel) rfl rfl (Nat.le_of_ble_eq_true rfl) (hT.up 0 (by decide) ⟨rfl, (fM_0_7 hT), (fM_0_9 hT), (fM_0_11 hT), (rg_w (fM_0_13 hT0) (by decide)), (fM_0_15 hT), (fM_0_21 hT), (fM_0_23 hT)⟩) (fr_fd hF (sM_0 hT) (by decide)) dX7_land_65 (fun C_16 H locs e_17 hT hF hP hD hS => ?_)
    have t_18 := hT
    refine lv_aload_n hx hb dX7_land_68 rfl (lv_at hl 7 rfl) ?_
    refine lv_iload hx hb dX7_land_69 (lv_at hl 3 rfl) ?_
    refine th_put (Tp := TyM a E) (Rl := fr [(8, 9), (13, 14), (24, 48), (48, 64), (64, 69), (69, 74)] [7, 9, 11, 13, 15, 21, 22, 23, 24, 25, 26] C) (ci := 7) (v := .int (gi (C 0) 15)) (ty := .int) (CC := RX7) (T := TX7) (N := 29) hx hb htg ig_7 tyX7 tyX7_ok nmX7 hown hK hP hD hS 0 (Nat.lt_of_lt_of_le (by decide) hn) (sM_0 hT) rfl 15 (by decide) (htg _ q_988) (fun _ h9 => h9) rfl (by decide +kernel) rfl rfl (Nat.le_of_ble_eq_true rfl) (hT.up 0 (by decide) ⟨rfl, (fM_0_7 hT), (fM_0_9 hT), (fM_0_11 hT), (fM_0_13 hT), (rg_w (fM_0_15 hT0) (by decide)), (fM_0_21 hT), (fM_0_23 hT)⟩) (fr_fd hF (sM_0 hT) (by decide)) dX7_land_71 (fun C_19 H locs e_20 hT hF hP hD hS => ?_)
    have t_21 := hT
    refine lv_aload_n hx hb dX7_land_74 rfl (lv_at hl 7 rfl) ?_
    refine va_get (D := D) (ci := 7) (v := .ref (a 13)) (C := RX7) (T := TX7) (N := 29) hx hb htg ig_7 hown hK hP 0 (oh_wg (Nat.lt_of_lt_of_le (by decide) hn) (sM_0 hT)) rfl 17 (by decide) (htg _ q_990) (fun _ h9 => h9) rfl dX7_land_75 ?_
    refine lv_iconst (v := 0) hx hb dX7_land_78 (by decide) ?_
    refine lv_iload hx hb dX7_land_79 (lv_at hl 2 rfl) ?_
    refine th_iast (T := TyM a E) (Rl := fr [(8, 9), (13, 14), (24, 48), (48, 64), (64, 69), (69, 74)] [7, 9, 11, 13, 15, 21, 22, 23, 24, 25, 26] C) hx hb hK hP hD hS 13 (Nat.lt_of_lt_of_le (by decide) hn) (sM_13 hT) (rg_in (rg_c (v := 0) (lo := 0) (hi := 0) (by decide)) (by decide)) (hT.up 13 (by decide) (tA_upd (tM_13 hT) tA_any)) (fr_st hF (by decide) (by decide)) dX7_land_81 (fun C_22 H locs e_23 hT hF hP hD hS => ?_)
    have t_24 := hT
    refine lv_aload_n hx hb dX7_land_82 rfl (lv_at hl 7 rfl) ?_
    refine va_get (D := D) (ci := 7) (v := .ref (a 13)) (C := RX7) (T := TX7) (N := 29) hx hb htg ig_7 hown hK hP 0 (oh_wg (Nat.lt_of_lt_of_le (by decide) hn) (sM_0 hT)) rfl 17 (by decide) (htg _ q_990) (fun _ h9 => h9) rfl dX7_land_83 ?_
    refine lv_iconst (v := 1) hx hb dX7_land_86 (by decide) ?_
    refine lv_iload hx hb dX7_land_87 (lv_at hl 1 rfl) ?_
    refine th_iast (T := TyM a E) (Rl := fr [(8, 9), (13, 14), (24, 48), (48, 64), (64, 69), (69, 74)] [7, 9, 11, 13, 15, 21, 22, 23, 24, 25, 26] C) hx hb hK hP hD hS 13 (Nat.lt_of_lt_of_le (by decide) hn) (sM_13 hT) (rg_in (rg_c (v := 1) (lo := 1) (hi := 1) (by decide)) (by decide)) (hT.up 13 (by decide) (tA_upd (tM_13 hT) tA_any)) (fr_st hF (by decide) (by decide)) dX7_land_89 (fun C_25 H locs e_26 hT hF hP hD hS => ?_)
    have t_27 := hT
    refine lv_aload_n hx hb dX7_land_90 rfl (lv_at hl 7 rfl) ?_
    refine lv_bipush (v := (-2)) hx hb dX7_land_91 (by decide) ?_
    refine tm_V (As := [.int (-2)]) (rest := []) ⟨hx, hb, hml, hown, htg⟩ (c_X7_refuse l D E G _ a C_25 n hn hT ((-2) : Int32) (rg_w (rg_c (v := (-2)) (lo := (-2)) (hi := (-2)) (by decide)) (by decide))) (cwV 1 htg (oh_gV q_1071 q_1073 q_29 q_73 q_1074) rfl rfl rfl pdVX7_refuse ⟨Nat.le_of_ble_eq_true rfl, Nat.le_of_ble_eq_true rfl⟩) hK hP hD hG hS hA (va_recv hK hP (ci := 7) (q0 := 0) rfl (oh_wg (Nat.lt_of_lt_of_le (by decide) hn) (sM_0 hT))) rfl hl.1 rfl (Nat.le_of_ble_eq_true rfl) dX7_land_93 ⟨Nat.le_of_ble_eq_true rfl, Nat.le_of_ble_eq_true rfl⟩ (fun r_28 C_29 H locs hq_30 hP hD hS => ?_)
    obtain ⟨hT, f_31, hq_30⟩ := hq_30
    have hF := fr_tr hF f_31 (by decide) (by decide)
    refine W.widen (k := 0) (n := 0) (Nat.le_refl _) (Nat.le_refl _) ?_
    have t_32 := hT
    refine lv_pop hx hb dX7_land_96 rfl ?_
    refine lv_bipush (v := (-20)) hx hb dX7_land_97 (by decide) ?_
    refine lv_aload_n hx hb dX7_land_99 rfl (lv_at hl 7 rfl) ?_
    refine va_get (D := D) (ci := 7) (v := .int (gi (C_2 0) 25)) (C := RX7) (T := TX7) (N := 29) hx hb htg ig_7 hown hK hP 0 (oh_wg (Nat.lt_of_lt_of_le (by decide) hn) (sM_0 hT)) rfl 25 (by decide) (htg _ q_998) (fun _ h9 => h9) (oh_fv (c := C_29 0) (j := 25) rfl (Eq.trans (congrArg vi (f_31.2 25 (by decide))) (Eq.trans (congrArg (fun z => gi z 25) (th_un e_26 (by decide))) (Eq.trans (congrArg (fun z => gi z 25) (th_un e_23 (by decide))) (Eq.trans (show gi (C_19 0) 25 = gi (C_16 0) 25 by rw [e_20]; rfl) (Eq.trans (show gi (C_16 0) 25 = gi (C_13 0) 25 by rw [e_17]; rfl) (Eq.trans (show gi (C_13 0) 25 = gi (C_10 0) 25 by rw [e_14]; rfl) (Eq.trans (show gi (C_10 0) 25 = gi (C_6 0) 25 by rw [e_11]; rfl) (show gi (C_6 0) 25 = gi (C_2 0) 25 by rw [e_7]; rfl))))))))) dX7_land_100 ?_
    refine lv_isub hx hb dX7_land_103 ?_
    have u13_33 := u13 (show ga (C_29 13) = upd (upd (ga (C_19 13)) ((0 : Int32)).toNatClampNeg (ga (C 13) ((0 : Int32)).toNatClampNeg)) ((1 : Int32)).toNatClampNeg (ga (C 13) ((1 : Int32)).toNatClampNeg) by rw [(f_31.1 13 rfl (by decide)), st_ga e_26, st_ga e_23])
    rw [hQ]
    exact W.iret (v := (-20) - (gi (C_2 0) 25)) hx hb hr (fun t ht hW => ⟨⟨(-20) - (gi (C_2 0) 25), C_29, rfl, ⟨hT, hF, ⟨⟨(relW_back hR.1 hq_3.2.1 (fun i hi => (Eq.trans (f_31.1 _ (inR_out hi (by decide)) (by omega)) (Eq.trans (th_un e_26 (by omega)) (Eq.trans (th_un e_23 (by omega)) (Eq.trans (th_un e_20 (by omega)) (Eq.trans (th_un e_17 (by omega)) (Eq.trans (th_un e_14 (by omega)) (Eq.trans (th_un e_11 (by omega)) (th_un e_7 (by omega)))))))))) (congrArg Int32.toInt (Eq.trans (congrArg vi (f_31.2 13 (by decide))) (Eq.trans (congrArg (fun z => gi z 13) (th_un e_26 (by decide))) (Eq.trans (congrArg (fun z => gi z 13) (th_un e_23 (by decide))) (Eq.trans (show gi (C_19 0) 13 = gi (C_16 0) 13 by rw [e_20]; rfl) (show gi (C_16 0) 13 = (gi (C 0) 13) by rw [e_17]; rfl)))))) hq_3.2.2.1 (Eq.trans (f_31.1 14 rfl (by decide)) (Eq.trans (th_un e_26 (by decide)) (Eq.trans (th_un e_23 (by decide)) (Eq.trans (th_un e_20 (by decide)) (Eq.trans (th_un e_17 (by decide)) (Eq.trans (th_un e_14 (by decide)) (Eq.trans (th_un e_11 (by decide)) (Eq.trans (th_un e_7 (by decide)) (f_4.1 14 rfl (by decide))))))))))), hR.2.fr hF (by decide)⟩, (Eq.trans (congrArg vi (f_31.2 7 (by decide))) (Eq.trans (congrArg (fun z => gi z 7) (th_un e_26 (by decide))) (Eq.trans (congrArg (fun z => gi z 7) (th_un e_23 (by decide))) (Eq.trans (show gi (C_19 0) 7 = gi (C_16 0) 7 by rw [e_20]; rfl) (Eq.trans (show gi (C_16 0) 7 = gi (C_13 0) 7 by rw [e_17]; rfl) (Eq.trans (show gi (C_13 0) 7 = gi (C_10 0) 7 by rw [e_14]; rfl) (Eq.trans (show gi (C_10 0) 7 = gi (C_6 0) 7 by rw [e_11]; rfl) (show gi (C_6 0) 7 = (0 : Int32) by rw [e_7]; rfl)))))))), (fun A0 hA => mland_er (hq_3.2.2.2 A0 hA) c_9 hA rfl rfl (all4 (P := fun s => gi (C_29 0) (9 + 2 * s) = gi (C 0) (9 + 2 * s)) (Eq.trans (congrArg vi (f_31.2 9 (by decide))) (Eq.trans (congrArg (fun z => gi z 9) (th_un e_26 (by decide))) (Eq.trans (congrArg (fun z => gi z 9) (th_un e_23 (by decide))) (Eq.trans (show gi (C_19 0) 9 = gi (C_16 0) 9 by rw [e_20]; rfl) (Eq.trans (show gi (C_16 0) 9 = gi (C_13 0) 9 by rw [e_17]; rfl) (Eq.trans (show gi (C_13 0) 9 = gi (C_10 0) 9 by rw [e_14]; rfl) (show gi (C_10 0) 9 = (gi (C 0) 9) by rw [e_11]; rfl))))))) (Eq.trans (congrArg vi (f_31.2 11 (by decide))) (Eq.trans (congrArg (fun z => gi z 11) (th_un e_26 (by decide))) (Eq.trans (congrArg (fun z => gi z 11) (th_un e_23 (by decide))) (Eq.trans (show gi (C_19 0) 11 = gi (C_16 0) 11 by rw [e_20]; rfl) (Eq.trans (show gi (C_16 0) 11 = gi (C_13 0) 11 by rw [e_17]; rfl) (show gi (C_13 0) 11 = (gi (C 0) 11) by rw [e_14]; rfl)))))) (Eq.trans (congrArg vi (f_31.2 13 (by decide))) (Eq.trans (congrArg (fun z => gi z 13) (th_un e_26 (by decide))) (Eq.trans (congrArg (fun z => gi z 13) (th_un e_23 (by decide))) (Eq.trans (show gi (C_19 0) 13 = gi (C_16 0) 13 by rw [e_20]; rfl) (show gi (C_16 0) 13 = (gi (C 0) 13) by rw [e_17]; rfl))))) (Eq.trans (congrArg vi (f_31.2 15 (by decide))) (Eq.trans (congrArg (fun z => gi z 15) (th_un e_26 (by decide))) (Eq.trans (congrArg (fun z => gi z 15) (th_un e_23 (by decide))) (show gi (C_19 0) 15 = (gi (C 0) 15) by rw [e_20]; rfl))))) (two2 (P := fun j => ga (C_29 13) j = ga (C 13) j) u13_33.1 u13_33.2.1) (Eq.trans u13_33.2.2 (congrArg (fun z => ga z 2) (Eq.trans (th_un e_20 (by decide)) (Eq.trans (th_un e_17 (by decide)) (Eq.trans (th_un e_14 (by decide)) (Eq.trans (th_un e_11 (by decide)) (th_un e_7 (by decide)))))))) (fun s hs => frB 9 t_5 (show fr [(8, 9), (13, 14)] [7, 9, 11, 13, 15] C_2 C_29 from (fr_tr (fr_ste (fr_ste (fr_fde (fr_fde (fr_fde (fr_fde (fr_fde fr_rf e_7 (sM_0 t_5) (by decide)) e_11 (sM_0 t_8) (by decide)) e_14 (sM_0 t_12) (by decide)) e_17 (sM_0 t_15) (by decide)) e_20 (sM_0 t_18) (by decide)) e_23 (by decide) (by decide)) e_26 (by decide) (by decide)) f_31 (by decide) (by decide))) (by decide) s hs (by omega)))⟩⟩, ⟨by rw [ht]; exact hP, hD⟩⟩, hS.F ht⟩) hS.2.2 dX7_land_104
/-! EXACT: what calls make of the land -/
def putA (A : LA) (t i j : Nat) (v : Int32) : LA := fun s a b => if s = t ∧ a = i ∧ b = j then v else A s a b
theorem putA_5 {A : LA} {t i j s : Nat} {v : Int32} (ht : t < 4) : putA A t i j v 5 0 s = A 5 0 s := if_neg (by omega)
theorem putA_4 {A : LA} {t i j s : Nat} {v : Int32} (ht : t < 4) : putA A t i j v 4 0 s = A 4 0 s := if_neg (by omega)
theorem rowinj {w i j a b : Nat} (hj : j < w) (hb : b < w) (e : i * w + j = a * w + b) : i = a ∧ j = b := by
  rcases Nat.lt_trichotomy i a with h | h | h
  · have := rowlt h hj
    omega
  · subst h
    exact ⟨rfl, by omega⟩
  · have := rowlt h hb
    omega
theorem absX_put {c t i j : Nat} {v : Int32} {C u : Nat → va_E} {A : LA} (h : absX c C A) (ht : t < 4) (hj : j < wid t) (e : ga (u (c + 1 + t)) = upd (ga (C (c + 1 + t))) (i * wid t + j) v) (e3 : ∀ k, c ≤ k → k ≤ c + 5 → k ≠ c + 1 + t → u k = C k) : absX c u (putA A t i j v) := by
  obtain ⟨h1, h2, h3⟩ := h
  refine ⟨fun s hs => ?_, fun q hq => ?_, fun s hs a ha b hb hv => ?_⟩
  · rw [putA_5 ht, e3 c (Nat.le_refl _) (by omega) (by omega)]
    exact h1 s hs
  · rw [putA_4 ht, e3 _ (by omega) (by omega) (by omega)]
    exact h2 q hq
  · rw [putA_5 ht] at ha
    unfold putA
    by_cases q : s = t
    · subst q
      rw [e]
      by_cases q2 : a = i ∧ b = j
      · rw [if_pos ⟨rfl, q2.1, q2.2⟩, q2.1, q2.2, pk_us]
      · rw [if_neg (fun z => q2 z.2), pk_un (fun z => q2 (rowinj hb hj z))]
        exact h3 s hs a ha b hb hv
    · rw [if_neg (fun z => q z.1), e3 _ (by omega) (by omega) (by omega)]
      exact h3 s hs a ha b hb hv
theorem absM_put {t i j : Nat} {v : Int32} {C u : Nat → va_E} {A : LA} (h : absM C A) (ht : t < 4) (e : ga (u (blk t + i)) = upd (ga (C (blk t + i))) j v) (e0 : ∀ s, s < 4 → gi (u 0) (9 + 2 * s) = gi (C 0) (9 + 2 * s)) (e13 : u 13 = C 13) (e3 : ∀ s, s < 4 → ∀ a : Nat, (a : Int) < (gi (C 0) (9 + 2 * s)).toInt → ¬ (s = t ∧ a = i) → u (blk s + a) = C (blk s + a)) : absM u (putA A t i j v) := by
  obtain ⟨h1, h2, h3⟩ := h
  refine ⟨fun s hs => ?_, fun q hq => ?_, fun s hs a ha b hb hv => ?_⟩
  · rw [putA_5 ht, e0 s hs]
    exact h1 s hs
  · rw [putA_4 ht, e13]
    exact h2 q hq
  · rw [putA_5 ht] at ha
    unfold putA
    by_cases q : s = t ∧ a = i
    · obtain ⟨q1, q2⟩ := q
      subst q1 q2
      rw [e]
      by_cases q3 : b = j
      · rw [q3, pk_us, if_pos ⟨rfl, rfl, rfl⟩]
      · rw [pk_un q3, if_neg (fun z => q3 z.2.2)]
        exact h3 s hs a ha b hb hv
    · rw [if_neg (fun z => q ⟨z.1, z.2.1⟩), e3 s hs a (by rw [h1 s hs]; exact ha) q]
      exact h3 s hs a ha b hb hv
/-- a row is added: the answer, the land -/
noncomputable def spRow (A : LA) (t : Nat) (R : Int32) (ok : Prop) (v : Nat → Int32) : Int32 × LA := pif ok (pif (A 5 0 t < R) (A 5 0 t, addA A t v) (-6, A)) (-2, A)
theorem spRow_b {A : LA} {t : Nat} {R : Int32} {ok : Prop} {v : Nat → Int32} (h : ¬ ok) : spRow A t R ok v = (-2, A) := pif_neg h
theorem spRow_f {A : LA} {t : Nat} {R : Int32} {ok : Prop} {v : Nat → Int32} (h : ok) (h2 : ¬ A 5 0 t < R) : spRow A t R ok v = (-6, A) := Eq.trans (pif_pos h) (pif_neg h2)
theorem spRow_y {A : LA} {t : Nat} {R : Int32} {ok : Prop} {v : Nat → Int32} (h : ok) (h2 : A 5 0 t < R) : spRow A t R ok v = (A 5 0 t, addA A t v) := Eq.trans (pif_pos h) (pif_pos h2)
theorem pr_b {S : Int32 × LA} {r k : Int32} {A : LA} {P : LA → Prop} (e : S = (k, A)) (er : r = k) (h : P A) : r = S.1 ∧ P S.2 := by
  rw [e]
  exact ⟨er, h⟩
theorem spX_y {t : Nat} {R r : Int32} {ok : Prop} {v : Nat → Int32} {C u : Nat → va_E} {A : LA} (hA : absX 10 C A) (ht : t < 4) (hc : rg (ga (C 10) t) 0 24) (h : ok) (h2 : ga (C 10) t < R) (er : r = ga (C 10) t) (e1 : ga (u 10) = upd (ga (C 10)) t (ga (C 10) t + 1)) (e2 : rowPt (wid t) (ga (C 10) t).toNatClampNeg (wid t) v (ga (C (10 + 1 + t))) (ga (u (10 + 1 + t)))) (e3 : ∀ k, 11 ≤ k → k ≤ 15 → k ≠ 10 + 1 + t → u k = C k) : r = (spRow A t R ok v).1 ∧ absX 10 u (spRow A t R ok v).2 := by
  have e0 := hA.1 t ht
  exact pr_b (spRow_y h (by rw [← e0]; exact h2)) (er.trans e0) (absX_add hA ht hc e1 e2 (fun k k1 k2 k3 => e3 k (by omega) (by omega) k3))
theorem spX_f {t : Nat} {R r : Int32} {ok : Prop} {v : Nat → Int32} {C u : Nat → va_E} {A : LA} (hA : absX 10 C A) (ht : t < 4) (h : ok) (h2 : ¬ ga (C 10) t < R) (er : r = -6) (e3 : ∀ k, 10 ≤ k → k ≤ 15 → u k = C k) : r = (spRow A t R ok v).1 ∧ absX 10 u (spRow A t R ok v).2 :=
  pr_b (spRow_f h (by rw [← hA.1 t ht]; exact h2)) er (absX_eq hA (fun k k1 k2 => e3 k k1 (by omega)))
theorem spX_b {t : Nat} {R r : Int32} {ok : Prop} {v : Nat → Int32} {C u : Nat → va_E} {A : LA} (hA : absX 10 C A) (h : ¬ ok) (er : r = -2) (e3 : ∀ k, 10 ≤ k → k ≤ 15 → u k = C k) : r = (spRow A t R ok v).1 ∧ absX 10 u (spRow A t R ok v).2 :=
  pr_b (spRow_b h) er (absX_eq hA (fun k k1 k2 => e3 k k1 (by omega)))
/-- numbers of things that there are -/
theorem oh_ltX {x n : Int32} (hn : rg n 0 24) (c : x ≤ n - 1) : x < n := by
  have h := Int32.le_iff_toInt_le.mp c
  have e : (n - 1).toInt = n.toInt - 1 := by
    rw [Int32.toInt_sub]
    exact oh_bmod (by show _ ≤ n.toInt - 1; have := hn.1; omega) (by show n.toInt - 1 ≤ _; have := hn.2; omega)
  rw [e] at h
  exact Int32.lt_iff_toInt_lt.mpr (by omega)
theorem oh_ltX' {x n : Int32} (hn : rg n 0 24) (c : x < n) : x ≤ n - 1 := by
  have h := Int32.lt_iff_toInt_lt.mp c
  have e : (n - 1).toInt = n.toInt - 1 := by
    rw [Int32.toInt_sub]
    exact oh_bmod (by show _ ≤ n.toInt - 1; have := hn.1; omega) (by show n.toInt - 1 ≤ _; have := hn.2; omega)
  exact Int32.le_iff_toInt_le.mpr (by rw [e]; omega)
theorem is_n {x n : Int32} (hn : rg n 0 24) : (0 ≤ x ∧ x ≤ n - 1) ↔ (0 ≤ x ∧ x < n) := ⟨fun h => ⟨h.1, oh_ltX hn h.2⟩, fun h => ⟨h.1, oh_ltX' hn h.2⟩⟩
theorem is_n64 {x n : Int32} (hn : rg n 0 24) : ((0 : Int64) ≤ Int32.toInt64 x ∧ Int32.toInt64 x ≤ Int32.toInt64 (n - 1)) ↔ (0 ≤ x ∧ x < n) := by
  rw [← is_n hn, ← oh_in64' (x := x) (lo := 0) (hi := n - 1)]
  exact Iff.rfl
theorem upd_back {f : Nat → Int32} {i : Nat} {x : Int32} : upd (upd f i x) i (f i) = f := by
  funext j
  by_cases h : j = i
  · rw [h, pk_us]
  · rw [pk_un h, pk_un h]
noncomputable def b01 (x : Int32) : Int32 := pif (x = 0) 0 1
/-- a bridge stands otherwise: the told columns -/
noncomputable def stA (A : LA) (b w x : Int32) : LA := pif ((0 ≤ b ∧ b < A 5 0 1) ∧ (0 ≤ w ∧ w ≤ 2) ∧ ¬ (w = 0 ∧ A 1 b.toNatClampNeg 1 = 3)) (putA A 1 b.toNatClampNeg (7 + w.toNatClampNeg) (b01 x)) A
/-- iron is never propped -/
def okI (A : LA) : Prop := ∀ b : Nat, (b : Int) < (A 5 0 1).toInt → A 1 b 1 = 3 → A 1 b 7 = 0
noncomputable def spShut (A : LA) (r x : Int32) : Int32 × LA := pif (0 ≤ r ∧ r < A 5 0 0) (pif (A 0 r.toNatClampNeg 6 = b01 x) 0 1, putA A 0 r.toNatClampNeg 6 (b01 x)) (-2, A)
noncomputable def spProp (A : LA) (b m c : Int32) : Int32 × LA := pif ((0 ≤ b ∧ b < A 5 0 1) ∧ (0 ≤ m ∧ m ≤ 999) ∧ (0 ≤ c ∧ c ≤ 999)) (1, putA (putA A 1 b.toNatClampNeg 5 m) 1 b.toNatClampNeg 6 c) (-2, A)
noncomputable def spAsk (A : LA) (w v : Int32) : Int32 × LA := pif ((0 ≤ w ∧ w ≤ 2) ∧ (0 ≤ v ∧ v ≤ oh_maxs w.toNatClampNeg)) (A 4 0 w.toNatClampNeg, setA A w.toNatClampNeg v) (-2, A)
def okRoad (a b m r t p : Int32) : Prop := (0 ≤ a ∧ a ≤ 15) ∧ (0 ≤ b ∧ b ≤ 15) ∧ ¬ a = b ∧ (1 ≤ m ∧ m ≤ 60) ∧ (0 ≤ r ∧ r ≤ 9) ∧ (1 ≤ t ∧ t ≤ 99) ∧ (0 ≤ p ∧ p ≤ 15)
def okBr (n r k s x l : Int32) : Prop := (0 ≤ r ∧ r < n) ∧ (0 ≤ k ∧ k ≤ 5) ∧ (0 ≤ s ∧ s ≤ 60) ∧ (1 ≤ x ∧ x ≤ 99) ∧ (1 ≤ l ∧ l ≤ 999)
def okWg (a s t : Int32) : Prop := (2 ≤ a ∧ a ≤ 12) ∧ (1 ≤ s ∧ s ≤ 9) ∧ (0 ≤ t ∧ t ≤ 99)
def okPt (w c : Int32) : Prop := (1 ≤ w ∧ w ≤ 99) ∧ (0 ≤ c ∧ c ≤ 99)

set_option maxHeartbeats 4000000 in
set_option maxRecDepth 100000 in
theorem e_X6_isPlace (l : Launch) (D : va_G) (E : Nat → ClassId) (G : Nat → Nat) (x1 : Int32) : Met l yX6_isPlace (oh_w yX6_isPlace cX6_isPlace 1 (some .boolean)) ({ frames := 1, cells := 0, slots := 0, locals := 22 }) (oh_Pp D E G [.int x1] []) (vp_Si (fun r => (r = 0 ∨ r = 1) ∧ (r ≠ 0 → rg x1 0 15) ∧ (r = 0 → (¬ ((0 : Int32) ≤ x1 ∧ x1 ≤ (15 : Int32)))))) 0 0 (fun _ => False) := by
  refine Met.ofW (cc := cX6_isPlace) (maxL := 1) (ret := (some .boolean)) (by decide) rfl ?_
  intro p e s m args below meth c s₁ B hml hv
  obtain ⟨rfl, hP, hK, hG⟩ := hv
  have hx := B.exec
  have hb := B.bytes
  have hr := B.returns
  have hts := atoms_spec (ws := (oh_w yX6_isPlace cX6_isPlace 1 (some .boolean))) B.pre
  have htg : ∀ w ∈ oh_t, w.before _ s = true := fun w h => hts w (List.mem_cons_of_mem _ h)
  have hown : s.vm.findClass RX6 = some m.cls := findClass_of_methodNamed B.named
  have hlocks := B.notSynchronized
  have hS : va_S (fun _ => False) s.heap s.heap [] := va_S.rf
  have hl := lv_entry ([.int x1]) (n := 1) (Nat.le_of_ble_eq_true rfl)
  rw [lg_entry_eq]
  generalize (lg_sl ([.int x1]) ++ List.replicate (1 - (lg_sl ([.int x1])).length) Slot.unset).toArray = ls at hl ⊢
  have hl : lv_has ls 1 [(0, .int x1)] := hl
  refine oh_genQ (fun Q hQ => ?_)
  refine lv_iload_n hx hb dX6_isPlace_0 rfl (lv_at hl 0 rfl) ?_
  refine lv_iconst (v := 0) hx hb dX6_isPlace_1 (by decide) ?_
  refine lv_bipush (v := 15) hx hb dX6_isPlace_2 (by decide) ?_
  refine tq_S (As := [.int x1, .int 0, .int 15]) (rest := []) (ws := []) ⟨hx, hb, hml, hown, htg⟩ (c_X6_within l D E G x1 (0 : Int32) (15 : Int32)) (va_cwS 3 htg (oh_gS q_293 q_294 q_66 q_295) rfl rfl rfl pdX6_within ⟨Nat.le_of_ble_eq_true rfl, Nat.le_of_ble_eq_true rfl⟩) hK va_nil hG hS rfl hl.1 rfl (Nat.le_of_ble_eq_true rfl) dX6_isPlace_4 ⟨Nat.le_of_ble_eq_true rfl, Nat.le_of_ble_eq_true rfl⟩ (fun r_1 hq_2 => ?_)
  rw [hQ]
  exact W.zret (v := r_1) (ty := .boolean) hx hb hr (oh_nb hq_2.1) (fun t ht hW => ⟨r_1, rfl, ⟨hq_2.1, (fun h9 => (rg_w (rn_leu (hq_2.2.1 h9).2 (rn_lel (hq_2.2.1 h9).1 (rg_c (v := 0) (lo := 0) (hi := 0) (by decide)) (rg_any _)) (rg_c (v := 15) (lo := 15) (hi := 15) (by decide))) (by decide))), (fun h9 => (hq_2.2.2 h9))⟩, ht⟩) (fun q h => by cases h) dX6_isPlace_7

set_option maxHeartbeats 4000000 in
set_option maxRecDepth 100000 in
theorem e_X6_isRoad (l : Launch) (D : va_G) (E : Nat → ClassId) (G : Nat → Nat) (a : Nat → Nat) (C : Nat → va_E) (hT : TyX a E C) (x1 : Int32) : Met l yX6_isRoad (oh_w yX6_isRoad cX6_isRoad 2 (some .boolean)) ({ frames := 1, cells := 0, slots := 0, locals := 22 }) (oh_Pp D E G [.ref (a 0), .int x1] (oh_W 35 a C)) (vp_Si (fun r => (r = 0 ∨ r = 1) ∧ (r ≠ 0 → rg x1 0 23 ∧ ((0 : Int32) ≤ x1 ∧ x1 < ga (C 10) ((0 : Int32)).toNatClampNeg)) ∧ (r = 0 → (¬ ((0 : Int32) ≤ x1 ∧ x1 < ga (C 10) ((0 : Int32)).toNatClampNeg))))) 0 0 (fun _ => False) := by
  refine Met.ofW (cc := cX6_isRoad) (maxL := 2) (ret := (some .boolean)) (by decide) rfl ?_
  intro p e s m args below meth c s₁ B hml hv
  obtain ⟨rfl, hP, hK, hG⟩ := hv
  have hx := B.exec
  have hb := B.bytes
  have hr := B.returns
  have hts := atoms_spec (ws := (oh_w yX6_isRoad cX6_isRoad 2 (some .boolean))) B.pre
  have htg : ∀ w ∈ oh_t, w.before _ s = true := fun w h => hts w (List.mem_cons_of_mem _ h)
  have hown : s.vm.findClass RX6 = some m.cls := findClass_of_methodNamed B.named
  have hlocks := B.notSynchronized
  have hT0 := hT
  have hS : va_S (fun _ => False) s.heap s.heap [] := va_S.rf
  have hl := lv_entry ([.ref (a 0), .int x1]) (n := 2) (Nat.le_of_ble_eq_true rfl)
  rw [lg_entry_eq]
  generalize (lg_sl ([.ref (a 0), .int x1]) ++ List.replicate (2 - (lg_sl ([.ref (a 0), .int x1])).length) Slot.unset).toArray = ls at hl ⊢
  have hl : lv_has ls 2 [(0, .ref (a 0)), (1, .int x1)] := hl
  refine oh_genQ (fun Q hQ => ?_)
  refine lv_iload_n hx hb dX6_isRoad_0 rfl (lv_at hl 1 rfl) ?_
  refine lv_iconst (v := 0) hx hb dX6_isRoad_1 (by decide) ?_
  refine lv_aload_n hx hb dX6_isRoad_2 rfl (lv_at hl 0 rfl) ?_
  refine va_get (D := D) (ci := 6) (v := .ref (a 1)) (C := RX6) (T := TX6) (N := 9) hx hb htg ig_6 hown hK hP 0 (oh_wg (by decide) (sX_0 hT)) rfl 0 (by decide) (htg _ q_258) (fun _ h9 => h9) rfl dX6_isRoad_3 ?_
  refine va_get (D := D) (ci := 0) (v := .ref (a 10)) (C := RX0) (T := TX0) (N := 8) hx hb htg ig_0 hown hK hP 1 (oh_wg (by decide) (sX_1 hT)) rfl 0 (by decide) (htg _ q_100) (fun _ h9 => h9) rfl dX6_isRoad_6 ?_
  refine lv_iconst (v := 0) hx hb dX6_isRoad_9 (by decide) ?_
  refine th_iald hx hb hK hP 10 (by decide) (sX_10 hT) (rg_in (rg_c (v := 0) (lo := 0) (hi := 0) (by decide)) (by decide)) dX6_isRoad_10 ?_
  refine lv_iconst (v := 1) hx hb dX6_isRoad_11 (by decide) ?_
  refine lv_isub hx hb dX6_isRoad_12 ?_
  refine tq_S (As := [.int x1, .int 0, .int ((ga (C 10) ((0 : Int32)).toNatClampNeg) - 1)]) (rest := []) (ws := []) ⟨hx, hb, hml, hown, htg⟩ (c_X6_within l D E G x1 (0 : Int32) ((ga (C 10) ((0 : Int32)).toNatClampNeg) - 1)) (va_cwS 3 htg (oh_gS q_293 q_294 q_66 q_295) rfl rfl rfl pdX6_within ⟨Nat.le_of_ble_eq_true rfl, Nat.le_of_ble_eq_true rfl⟩) hK va_nil hG hS rfl hl.1 rfl (Nat.le_of_ble_eq_true rfl) dX6_isRoad_13 ⟨Nat.le_of_ble_eq_true rfl, Nat.le_of_ble_eq_true rfl⟩ (fun r_1 hq_2 => ?_)
  rw [hQ]
  exact W.zret (v := r_1) (ty := .boolean) hx hb hr (oh_nb hq_2.1) (fun t ht hW => ⟨r_1, rfl, ⟨hq_2.1, (fun h9 => ⟨(rg_w (rn_leu (hq_2.2.1 h9).2 (rn_lel (hq_2.2.1 h9).1 (rg_c (v := 0) (lo := 0) (hi := 0) (by decide)) (rg_any _)) (rg_sub (lo := (-1)) (hi := 23) (tA_rdc (lo := 0) (hi := 24) (tX_10 hT0) (rg_in (rg_c (v := 0) (lo := 0) (hi := 0) (by decide)) (by decide)) (show _ = 0 by decide) (by decide)) (rg_c (v := 1) (lo := 1) (hi := 1) (by decide)) (by decide))) (by decide)), ⟨(hq_2.2.1 h9).1, oh_ltX (cntX 0 hT0 (by decide)) (hq_2.2.1 h9).2⟩⟩), (fun h9 => (fun h8 => (hq_2.2.2 h9) ((is_n (cntX 0 hT0 (by decide))).mpr h8)))⟩, ht⟩) (fun q h => by cases h) dX6_isRoad_16

set_option maxHeartbeats 4000000 in
set_option maxRecDepth 100000 in
theorem e_X6_isBridge (l : Launch) (D : va_G) (E : Nat → ClassId) (G : Nat → Nat) (a : Nat → Nat) (C : Nat → va_E) (hT : TyX a E C) (x1 : Int32) : Met l yX6_isBridge (oh_w yX6_isBridge cX6_isBridge 2 (some .boolean)) ({ frames := 1, cells := 0, slots := 0, locals := 22 }) (oh_Pp D E G [.ref (a 0), .int x1] (oh_W 35 a C)) (vp_Si (fun r => (r = 0 ∨ r = 1) ∧ (r ≠ 0 → rg x1 0 15 ∧ ((0 : Int32) ≤ x1 ∧ x1 < ga (C 10) ((1 : Int32)).toNatClampNeg)) ∧ (r = 0 → (¬ ((0 : Int32) ≤ x1 ∧ x1 < ga (C 10) ((1 : Int32)).toNatClampNeg))))) 0 0 (fun _ => False) := by
  refine Met.ofW (cc := cX6_isBridge) (maxL := 2) (ret := (some .boolean)) (by decide) rfl ?_
  intro p e s m args below meth c s₁ B hml hv
  obtain ⟨rfl, hP, hK, hG⟩ := hv
  have hx := B.exec
  have hb := B.bytes
  have hr := B.returns
  have hts := atoms_spec (ws := (oh_w yX6_isBridge cX6_isBridge 2 (some .boolean))) B.pre
  have htg : ∀ w ∈ oh_t, w.before _ s = true := fun w h => hts w (List.mem_cons_of_mem _ h)
  have hown : s.vm.findClass RX6 = some m.cls := findClass_of_methodNamed B.named
  have hlocks := B.notSynchronized
  have hT0 := hT
  have hS : va_S (fun _ => False) s.heap s.heap [] := va_S.rf
  have hl := lv_entry ([.ref (a 0), .int x1]) (n := 2) (Nat.le_of_ble_eq_true rfl)
  rw [lg_entry_eq]
  generalize (lg_sl ([.ref (a 0), .int x1]) ++ List.replicate (2 - (lg_sl ([.ref (a 0), .int x1])).length) Slot.unset).toArray = ls at hl ⊢
  have hl : lv_has ls 2 [(0, .ref (a 0)), (1, .int x1)] := hl
  refine oh_genQ (fun Q hQ => ?_)
  refine lv_iload_n hx hb dX6_isBridge_0 rfl (lv_at hl 1 rfl) ?_
  refine lv_iconst (v := 0) hx hb dX6_isBridge_1 (by decide) ?_
  refine lv_aload_n hx hb dX6_isBridge_2 rfl (lv_at hl 0 rfl) ?_
  refine va_get (D := D) (ci := 6) (v := .ref (a 1)) (C := RX6) (T := TX6) (N := 9) hx hb htg ig_6 hown hK hP 0 (oh_wg (by decide) (sX_0 hT)) rfl 0 (by decide) (htg _ q_258) (fun _ h9 => h9) rfl dX6_isBridge_3 ?_
  refine va_get (D := D) (ci := 0) (v := .ref (a 10)) (C := RX0) (T := TX0) (N := 8) hx hb htg ig_0 hown hK hP 1 (oh_wg (by decide) (sX_1 hT)) rfl 0 (by decide) (htg _ q_100) (fun _ h9 => h9) rfl dX6_isBridge_6 ?_
  refine lv_iconst (v := 1) hx hb dX6_isBridge_9 (by decide) ?_
  refine th_iald hx hb hK hP 10 (by decide) (sX_10 hT) (rg_in (rg_c (v := 1) (lo := 1) (hi := 1) (by decide)) (by decide)) dX6_isBridge_10 ?_
  refine lv_iconst (v := 1) hx hb dX6_isBridge_11 (by decide) ?_
  refine lv_isub hx hb dX6_isBridge_12 ?_
  refine tq_S (As := [.int x1, .int 0, .int ((ga (C 10) ((1 : Int32)).toNatClampNeg) - 1)]) (rest := []) (ws := []) ⟨hx, hb, hml, hown, htg⟩ (c_X6_within l D E G x1 (0 : Int32) ((ga (C 10) ((1 : Int32)).toNatClampNeg) - 1)) (va_cwS 3 htg (oh_gS q_293 q_294 q_66 q_295) rfl rfl rfl pdX6_within ⟨Nat.le_of_ble_eq_true rfl, Nat.le_of_ble_eq_true rfl⟩) hK va_nil hG hS rfl hl.1 rfl (Nat.le_of_ble_eq_true rfl) dX6_isBridge_13 ⟨Nat.le_of_ble_eq_true rfl, Nat.le_of_ble_eq_true rfl⟩ (fun r_1 hq_2 => ?_)
  rw [hQ]
  exact W.zret (v := r_1) (ty := .boolean) hx hb hr (oh_nb hq_2.1) (fun t ht hW => ⟨r_1, rfl, ⟨hq_2.1, (fun h9 => ⟨(rg_w (rn_leu (hq_2.2.1 h9).2 (rn_lel (hq_2.2.1 h9).1 (rg_c (v := 0) (lo := 0) (hi := 0) (by decide)) (rg_any _)) (rg_sub (lo := (-1)) (hi := 15) (tA_rdc (lo := 0) (hi := 16) (tX_10 hT0) (rg_in (rg_c (v := 1) (lo := 1) (hi := 1) (by decide)) (by decide)) (show _ = 1 by decide) (by decide)) (rg_c (v := 1) (lo := 1) (hi := 1) (by decide)) (by decide))) (by decide)), ⟨(hq_2.2.1 h9).1, oh_ltX (cntX 1 hT0 (by decide)) (hq_2.2.1 h9).2⟩⟩), (fun h9 => (fun h8 => (hq_2.2.2 h9) ((is_n (cntX 1 hT0 (by decide))).mpr h8)))⟩, ht⟩) (fun q h => by cases h) dX6_isBridge_16

set_option maxHeartbeats 4000000 in
set_option maxRecDepth 100000 in
theorem e_X6_road (l : Launch) (D : va_G) (E : Nat → ClassId) (G : Nat → Nat) (sz : Nat) (a : Nat → Nat) (C : Nat → va_E) (hT : TyX a E C) (x1 : Int32) (x2 : Int32) (x3 : Int32) (x4 : Int32) (x5 : Int32) (x6 : Int32) : Met l yX6_road (oh_w yX6_road cX6_road 7 (some .int)) ({ frames := 2, cells := 0, slots := 0, locals := 44 }) (oh_Pm D E G [.ref (a 0), .int x1, .int x2, .int x3, .int x4, .int x5, .int x6] (oh_W 35 a C) sz) (va_Qi (fun r (u : Nat → va_E) => TyX a E u ∧ fr [(7, 8), (10, 12)] [] C u ∧ (∀ A : LA, absX 10 C A → r = (spRow A 0 24 (okRoad x1 x2 x3 x4 x5 x6) (rwf [x1, x2, x3, x4, x5, x6, 0])).1 ∧ absX 10 u (spRow A 0 24 (okRoad x1 x2 x3 x4 x5 x6) (rwf [x1, x2, x3, x4, x5, x6, 0])).2)) (oh_B D (va_A (oh_W 35 a C) sz) (fun u => oh_W 35 a u)) (va_A (oh_W 35 a C) sz)) 0 0 (va_A (oh_W 35 a C) sz) := by
  refine Met.ofW (cc := cX6_road) (maxL := 7) (ret := (some .int)) (by decide) rfl ?_
  intro p e s m args below meth c s₁ B hml hv
  obtain ⟨rfl, hsz, hP, hK, hD0, hG⟩ := hv
  have hx := B.exec
  have hb := B.bytes
  have hr := B.returns
  have hts := atoms_spec (ws := (oh_w yX6_road cX6_road 7 (some .int))) B.pre
  have htg : ∀ w ∈ oh_t, w.before _ s = true := fun w h => hts w (List.mem_cons_of_mem _ h)
  have hown : s.vm.findClass RX6 = some m.cls := findClass_of_methodNamed B.named
  have hlocks := B.notSynchronized
  have hT0 := hT
  subst hsz
  have hD := hD0.self (sz := s.heap.size)
  generalize hAe : va_A (oh_W 35 a C) s.heap.size = A at hD hG ⊢
  have hA : ∀ q : Nat, s.heap.size ≤ q → A q := fun q h => by rw [← hAe]; exact Or.inr h
  have hS : va_S A s.heap s.heap [] := va_S.rf
  have hF : fr [(7, 8), (10, 12)] [] C C := fr_rf
  have hl := lv_entry ([.ref (a 0), .int x1, .int x2, .int x3, .int x4, .int x5, .int x6]) (n := 7) (Nat.le_of_ble_eq_true rfl)
  rw [lg_entry_eq]
  generalize (lg_sl ([.ref (a 0), .int x1, .int x2, .int x3, .int x4, .int x5, .int x6]) ++ List.replicate (7 - (lg_sl ([.ref (a 0), .int x1, .int x2, .int x3, .int x4, .int x5, .int x6])).length) Slot.unset).toArray = ls at hl ⊢
  have hl : lv_has ls 7 [(0, .ref (a 0)), (1, .int x1), (2, .int x2), (3, .int x3), (4, .int x4), (5, .int x5), (6, .int x6)] := hl
  refine oh_genQ (fun Q hQ => ?_)
  refine lv_iload_n hx hb dX6_road_0 rfl (lv_at hl 1 rfl) ?_
  refine tq_S (As := [.int x1]) (rest := []) (ws := []) ⟨hx, hb, hml, hown, htg⟩ (e_X6_isPlace l D E G x1) (va_cwS 1 htg (oh_gS q_413 q_414 q_66 q_415) rfl rfl rfl pdX6_isPlace ⟨Nat.le_of_ble_eq_true rfl, Nat.le_of_ble_eq_true rfl⟩) hK va_nil hG hS rfl hl.1 rfl (Nat.le_of_ble_eq_true rfl) dX6_road_1 ⟨Nat.le_of_ble_eq_true rfl, Nat.le_of_ble_eq_true rfl⟩ (fun r_1 hq_2 => ?_)
  refine lv_if_eq (tgt := 62) hx hb dX6_road_4 (by decide) (fun (c_3 : r_1 = 0) => ?_) (fun (c_3 : ¬ (r_1 = 0)) => ?_)
  · have u_4 := hq_2.2.2 c_3
    refine lv_aload_n hx hb dX6_road_62 rfl (lv_at hl 0 rfl) ?_
    refine lv_bipush (v := (-2)) hx hb dX6_road_63 (by decide) ?_
    refine tm_V (As := [.int (-2)]) (rest := []) ⟨hx, hb, hml, hown, htg⟩ (c_X6_refuse l D E G _ a C hT ((-2) : Int32)) (cwV 1 htg (oh_gV q_296 q_298 q_0 q_66 q_299) rfl rfl rfl pdVX6_refuse ⟨Nat.le_of_ble_eq_true rfl, Nat.le_of_ble_eq_true rfl⟩) hK hP hD hG hS hA (va_recv hK hP (ci := 6) (q0 := 0) rfl (oh_wg (by decide) (sX_0 hT))) rfl hl.1 rfl (Nat.le_of_ble_eq_true rfl) dX6_road_65 ⟨Nat.le_of_ble_eq_true rfl, Nat.le_of_ble_eq_true rfl⟩ (fun r_5 C_6 H locs hq_7 hP hD hS => ?_)
    obtain ⟨hT, f_8, hq_7⟩ := hq_7
    have hF := fr_tr hF f_8 (by decide) (by decide)
    refine W.widen (k := 0) (n := 0) (Nat.le_refl _) (Nat.le_refl _) ?_
    have t_9 := hT
    rw [hQ]
    exact W.iret (v := r_5) hx hb hr (fun t ht hW => ⟨⟨r_5, C_6, rfl, ⟨hT, hF, (fun A hA => spX_b hA (fun h8 => u_4 h8.1) hq_7 (fun k k1 k2 => (fr_all f_8 10 15 (by decide) k k1 k2)))⟩, ⟨by rw [ht]; exact hP, hD⟩⟩, hS.F ht⟩) hS.2.2 dX6_road_68
  · have u_10 := hq_2.2.1 c_3
    refine lv_iload_n hx hb dX6_road_7 rfl (lv_at hl 2 rfl) ?_
    refine tq_S (As := [.int x2]) (rest := []) (ws := []) ⟨hx, hb, hml, hown, htg⟩ (e_X6_isPlace l D E G x2) (va_cwS 1 htg (oh_gS q_413 q_414 q_66 q_415) rfl rfl rfl pdX6_isPlace ⟨Nat.le_of_ble_eq_true rfl, Nat.le_of_ble_eq_true rfl⟩) hK va_nil hG hS rfl hl.1 rfl (Nat.le_of_ble_eq_true rfl) dX6_road_8 ⟨Nat.le_of_ble_eq_true rfl, Nat.le_of_ble_eq_true rfl⟩ (fun r_11 hq_12 => ?_)
    refine lv_if_eq (tgt := 62) hx hb dX6_road_11 (by decide) (fun (c_13 : r_11 = 0) => ?_) (fun (c_13 : ¬ (r_11 = 0)) => ?_)
    · have u_14 := hq_12.2.2 c_13
      refine lv_aload_n hx hb dX6_road_62 rfl (lv_at hl 0 rfl) ?_
      refine lv_bipush (v := (-2)) hx hb dX6_road_63 (by decide) ?_
      refine tm_V (As := [.int (-2)]) (rest := []) ⟨hx, hb, hml, hown, htg⟩ (c_X6_refuse l D E G _ a C hT ((-2) : Int32)) (cwV 1 htg (oh_gV q_296 q_298 q_0 q_66 q_299) rfl rfl rfl pdVX6_refuse ⟨Nat.le_of_ble_eq_true rfl, Nat.le_of_ble_eq_true rfl⟩) hK hP hD hG hS hA (va_recv hK hP (ci := 6) (q0 := 0) rfl (oh_wg (by decide) (sX_0 hT))) rfl hl.1 rfl (Nat.le_of_ble_eq_true rfl) dX6_road_65 ⟨Nat.le_of_ble_eq_true rfl, Nat.le_of_ble_eq_true rfl⟩ (fun r_15 C_16 H locs hq_17 hP hD hS => ?_)
      obtain ⟨hT, f_18, hq_17⟩ := hq_17
      have hF := fr_tr hF f_18 (by decide) (by decide)
      refine W.widen (k := 0) (n := 0) (Nat.le_refl _) (Nat.le_refl _) ?_
      have t_19 := hT
      rw [hQ]
      exact W.iret (v := r_15) hx hb hr (fun t ht hW => ⟨⟨r_15, C_16, rfl, ⟨hT, hF, (fun A hA => spX_b hA (fun h8 => u_14 h8.2.1) hq_17 (fun k k1 k2 => (fr_all f_18 10 15 (by decide) k k1 k2)))⟩, ⟨by rw [ht]; exact hP, hD⟩⟩, hS.F ht⟩) hS.2.2 dX6_road_68
    · have u_20 := hq_12.2.1 c_13
      refine lv_iload_n hx hb dX6_road_14 rfl (lv_at hl 1 rfl) ?_
      refine lv_iload_n hx hb dX6_road_15 rfl (lv_at hl 2 rfl) ?_
      refine lv_icmp_eq (tgt := 62) hx hb dX6_road_16 (by decide) (fun (c_21 : x1 = x2) => ?_) (fun (c_21 : ¬ (x1 = x2)) => ?_)
      · refine lv_aload_n hx hb dX6_road_62 rfl (lv_at hl 0 rfl) ?_
        refine lv_bipush (v := (-2)) hx hb dX6_road_63 (by decide) ?_
        refine tm_V (As := [.int (-2)]) (rest := []) ⟨hx, hb, hml, hown, htg⟩ (c_X6_refuse l D E G _ a C hT ((-2) : Int32)) (cwV 1 htg (oh_gV q_296 q_298 q_0 q_66 q_299) rfl rfl rfl pdVX6_refuse ⟨Nat.le_of_ble_eq_true rfl, Nat.le_of_ble_eq_true rfl⟩) hK hP hD hG hS hA (va_recv hK hP (ci := 6) (q0 := 0) rfl (oh_wg (by decide) (sX_0 hT))) rfl hl.1 rfl (Nat.le_of_ble_eq_true rfl) dX6_road_65 ⟨Nat.le_of_ble_eq_true rfl, Nat.le_of_ble_eq_true rfl⟩ (fun r_22 C_23 H locs hq_24 hP hD hS => ?_)
        obtain ⟨hT, f_25, hq_24⟩ := hq_24
        have hF := fr_tr hF f_25 (by decide) (by decide)
        refine W.widen (k := 0) (n := 0) (Nat.le_refl _) (Nat.le_refl _) ?_
        have t_26 := hT
        rw [hQ]
        exact W.iret (v := r_22) hx hb hr (fun t ht hW => ⟨⟨r_22, C_23, rfl, ⟨hT, hF, (fun A hA => spX_b hA (fun h8 => h8.2.2.1 c_21) hq_24 (fun k k1 k2 => (fr_all f_25 10 15 (by decide) k k1 k2)))⟩, ⟨by rw [ht]; exact hP, hD⟩⟩, hS.F ht⟩) hS.2.2 dX6_road_68
      · refine lv_iload_n hx hb dX6_road_19 rfl (lv_at hl 3 rfl) ?_
        refine lv_iconst (v := 1) hx hb dX6_road_20 (by decide) ?_
        refine lv_bipush (v := 60) hx hb dX6_road_21 (by decide) ?_
        refine tq_S (As := [.int x3, .int 1, .int 60]) (rest := []) (ws := []) ⟨hx, hb, hml, hown, htg⟩ (c_X6_within l D E G x3 (1 : Int32) (60 : Int32)) (va_cwS 3 htg (oh_gS q_293 q_294 q_66 q_295) rfl rfl rfl pdX6_within ⟨Nat.le_of_ble_eq_true rfl, Nat.le_of_ble_eq_true rfl⟩) hK va_nil hG hS rfl hl.1 rfl (Nat.le_of_ble_eq_true rfl) dX6_road_23 ⟨Nat.le_of_ble_eq_true rfl, Nat.le_of_ble_eq_true rfl⟩ (fun r_27 hq_28 => ?_)
        refine lv_if_eq (tgt := 62) hx hb dX6_road_26 (by decide) (fun (c_29 : r_27 = 0) => ?_) (fun (c_29 : ¬ (r_27 = 0)) => ?_)
        · have u_30 := hq_28.2.2 c_29
          refine lv_aload_n hx hb dX6_road_62 rfl (lv_at hl 0 rfl) ?_
          refine lv_bipush (v := (-2)) hx hb dX6_road_63 (by decide) ?_
          refine tm_V (As := [.int (-2)]) (rest := []) ⟨hx, hb, hml, hown, htg⟩ (c_X6_refuse l D E G _ a C hT ((-2) : Int32)) (cwV 1 htg (oh_gV q_296 q_298 q_0 q_66 q_299) rfl rfl rfl pdVX6_refuse ⟨Nat.le_of_ble_eq_true rfl, Nat.le_of_ble_eq_true rfl⟩) hK hP hD hG hS hA (va_recv hK hP (ci := 6) (q0 := 0) rfl (oh_wg (by decide) (sX_0 hT))) rfl hl.1 rfl (Nat.le_of_ble_eq_true rfl) dX6_road_65 ⟨Nat.le_of_ble_eq_true rfl, Nat.le_of_ble_eq_true rfl⟩ (fun r_31 C_32 H locs hq_33 hP hD hS => ?_)
          obtain ⟨hT, f_34, hq_33⟩ := hq_33
          have hF := fr_tr hF f_34 (by decide) (by decide)
          refine W.widen (k := 0) (n := 0) (Nat.le_refl _) (Nat.le_refl _) ?_
          have t_35 := hT
          rw [hQ]
          exact W.iret (v := r_31) hx hb hr (fun t ht hW => ⟨⟨r_31, C_32, rfl, ⟨hT, hF, (fun A hA => spX_b hA (fun h8 => u_30 h8.2.2.2.1) hq_33 (fun k k1 k2 => (fr_all f_34 10 15 (by decide) k k1 k2)))⟩, ⟨by rw [ht]; exact hP, hD⟩⟩, hS.F ht⟩) hS.2.2 dX6_road_68
        · have u_36 := hq_28.2.1 c_29
          refine lv_iload hx hb dX6_road_29 (lv_at hl 4 rfl) ?_
          refine lv_iconst (v := 0) hx hb dX6_road_31 (by decide) ?_
          refine lv_bipush (v := 9) hx hb dX6_road_32 (by decide) ?_
          refine tq_S (As := [.int x4, .int 0, .int 9]) (rest := []) (ws := []) ⟨hx, hb, hml, hown, htg⟩ (c_X6_within l D E G x4 (0 : Int32) (9 : Int32)) (va_cwS 3 htg (oh_gS q_293 q_294 q_66 q_295) rfl rfl rfl pdX6_within ⟨Nat.le_of_ble_eq_true rfl, Nat.le_of_ble_eq_true rfl⟩) hK va_nil hG hS rfl hl.1 rfl (Nat.le_of_ble_eq_true rfl) dX6_road_34 ⟨Nat.le_of_ble_eq_true rfl, Nat.le_of_ble_eq_true rfl⟩ (fun r_37 hq_38 => ?_)
          refine lv_if_eq (tgt := 62) hx hb dX6_road_37 (by decide) (fun (c_39 : r_37 = 0) => ?_) (fun (c_39 : ¬ (r_37 = 0)) => ?_)
          · have u_40 := hq_38.2.2 c_39
            refine lv_aload_n hx hb dX6_road_62 rfl (lv_at hl 0 rfl) ?_
            refine lv_bipush (v := (-2)) hx hb dX6_road_63 (by decide) ?_
            refine tm_V (As := [.int (-2)]) (rest := []) ⟨hx, hb, hml, hown, htg⟩ (c_X6_refuse l D E G _ a C hT ((-2) : Int32)) (cwV 1 htg (oh_gV q_296 q_298 q_0 q_66 q_299) rfl rfl rfl pdVX6_refuse ⟨Nat.le_of_ble_eq_true rfl, Nat.le_of_ble_eq_true rfl⟩) hK hP hD hG hS hA (va_recv hK hP (ci := 6) (q0 := 0) rfl (oh_wg (by decide) (sX_0 hT))) rfl hl.1 rfl (Nat.le_of_ble_eq_true rfl) dX6_road_65 ⟨Nat.le_of_ble_eq_true rfl, Nat.le_of_ble_eq_true rfl⟩ (fun r_41 C_42 H locs hq_43 hP hD hS => ?_)
            obtain ⟨hT, f_44, hq_43⟩ := hq_43
            have hF := fr_tr hF f_44 (by decide) (by decide)
            refine W.widen (k := 0) (n := 0) (Nat.le_refl _) (Nat.le_refl _) ?_
            have t_45 := hT
            rw [hQ]
            exact W.iret (v := r_41) hx hb hr (fun t ht hW => ⟨⟨r_41, C_42, rfl, ⟨hT, hF, (fun A hA => spX_b hA (fun h8 => u_40 h8.2.2.2.2.1) hq_43 (fun k k1 k2 => (fr_all f_44 10 15 (by decide) k k1 k2)))⟩, ⟨by rw [ht]; exact hP, hD⟩⟩, hS.F ht⟩) hS.2.2 dX6_road_68
          · have u_46 := hq_38.2.1 c_39
            refine lv_iload hx hb dX6_road_40 (lv_at hl 5 rfl) ?_
            refine lv_iconst (v := 1) hx hb dX6_road_42 (by decide) ?_
            refine lv_bipush (v := 99) hx hb dX6_road_43 (by decide) ?_
            refine tq_S (As := [.int x5, .int 1, .int 99]) (rest := []) (ws := []) ⟨hx, hb, hml, hown, htg⟩ (c_X6_within l D E G x5 (1 : Int32) (99 : Int32)) (va_cwS 3 htg (oh_gS q_293 q_294 q_66 q_295) rfl rfl rfl pdX6_within ⟨Nat.le_of_ble_eq_true rfl, Nat.le_of_ble_eq_true rfl⟩) hK va_nil hG hS rfl hl.1 rfl (Nat.le_of_ble_eq_true rfl) dX6_road_45 ⟨Nat.le_of_ble_eq_true rfl, Nat.le_of_ble_eq_true rfl⟩ (fun r_47 hq_48 => ?_)
            refine lv_if_eq (tgt := 62) hx hb dX6_road_48 (by decide) (fun (c_49 : r_47 = 0) => ?_) (fun (c_49 : ¬ (r_47 = 0)) => ?_)
            · have u_50 := hq_48.2.2 c_49
              refine lv_aload_n hx hb dX6_road_62 rfl (lv_at hl 0 rfl) ?_
              refine lv_bipush (v := (-2)) hx hb dX6_road_63 (by decide) ?_
              refine tm_V (As := [.int (-2)]) (rest := []) ⟨hx, hb, hml, hown, htg⟩ (c_X6_refuse l D E G _ a C hT ((-2) : Int32)) (cwV 1 htg (oh_gV q_296 q_298 q_0 q_66 q_299) rfl rfl rfl pdVX6_refuse ⟨Nat.le_of_ble_eq_true rfl, Nat.le_of_ble_eq_true rfl⟩) hK hP hD hG hS hA (va_recv hK hP (ci := 6) (q0 := 0) rfl (oh_wg (by decide) (sX_0 hT))) rfl hl.1 rfl (Nat.le_of_ble_eq_true rfl) dX6_road_65 ⟨Nat.le_of_ble_eq_true rfl, Nat.le_of_ble_eq_true rfl⟩ (fun r_51 C_52 H locs hq_53 hP hD hS => ?_)
              obtain ⟨hT, f_54, hq_53⟩ := hq_53
              have hF := fr_tr hF f_54 (by decide) (by decide)
              refine W.widen (k := 0) (n := 0) (Nat.le_refl _) (Nat.le_refl _) ?_
              have t_55 := hT
              rw [hQ]
              exact W.iret (v := r_51) hx hb hr (fun t ht hW => ⟨⟨r_51, C_52, rfl, ⟨hT, hF, (fun A hA => spX_b hA (fun h8 => u_50 h8.2.2.2.2.2.1) hq_53 (fun k k1 k2 => (fr_all f_54 10 15 (by decide) k k1 k2)))⟩, ⟨by rw [ht]; exact hP, hD⟩⟩, hS.F ht⟩) hS.2.2 dX6_road_68
            · have u_56 := hq_48.2.1 c_49
              refine lv_iload hx hb dX6_road_51 (lv_at hl 6 rfl) ?_
              refine lv_iconst (v := 0) hx hb dX6_road_53 (by decide) ?_
              refine lv_bipush (v := 15) hx hb dX6_road_54 (by decide) ?_
              refine tq_S (As := [.int x6, .int 0, .int 15]) (rest := []) (ws := []) ⟨hx, hb, hml, hown, htg⟩ (c_X6_within l D E G x6 (0 : Int32) (15 : Int32)) (va_cwS 3 htg (oh_gS q_293 q_294 q_66 q_295) rfl rfl rfl pdX6_within ⟨Nat.le_of_ble_eq_true rfl, Nat.le_of_ble_eq_true rfl⟩) hK va_nil hG hS rfl hl.1 rfl (Nat.le_of_ble_eq_true rfl) dX6_road_56 ⟨Nat.le_of_ble_eq_true rfl, Nat.le_of_ble_eq_true rfl⟩ (fun r_57 hq_58 => ?_)
              refine lv_if_ne (tgt := 69) hx hb dX6_road_59 (by decide) (fun (c_59 : ¬ (r_57 = 0)) => ?_) (fun (c_59 : r_57 = 0) => ?_)
              · have u_60 := hq_58.2.1 c_59
                refine lv_aload_n hx hb dX6_road_69 rfl (lv_at hl 0 rfl) ?_
                refine va_get (D := D) (ci := 6) (v := .ref (a 1)) (C := RX6) (T := TX6) (N := 9) hx hb htg ig_6 hown hK hP 0 (oh_wg (by decide) (sX_0 hT)) rfl 0 (by decide) (htg _ q_258) (fun _ h9 => h9) rfl dX6_road_70 ?_
                refine lv_iconst (v := 0) hx hb dX6_road_73 (by decide) ?_
                refine tq_V (As := [.int 0]) (rest := []) (ws := (oh_W 35 a C)) ⟨hx, hb, hml, hown, htg⟩ (e_X0_hasRoom l D E G a C hT (0 : Int32) (rg_w (rg_c (v := 0) (lo := 0) (hi := 0) (by decide)) (by decide))) (cwV 1 htg (oh_gV q_416 q_417 q_418 q_67 q_419) rfl rfl rfl pdVX0_hasRoom ⟨Nat.le_of_ble_eq_true rfl, Nat.le_of_ble_eq_true rfl⟩) hK hP hG hS (va_recv hK hP (ci := 0) (q0 := 1) rfl (oh_wg (by decide) (sX_1 hT))) rfl hl.1 rfl (Nat.le_of_ble_eq_true rfl) dX6_road_74 ⟨Nat.le_of_ble_eq_true rfl, Nat.le_of_ble_eq_true rfl⟩ (fun r_61 hq_62 => ?_)
                refine lv_if_ne (tgt := 87) hx hb dX6_road_77 (by decide) (fun (c_63 : ¬ (r_61 = 0)) => ?_) (fun (c_63 : r_61 = 0) => ?_)
                · have u_64 := hq_62.2.1 c_63
                  refine lv_aload_n hx hb dX6_road_87 rfl (lv_at hl 0 rfl) ?_
                  refine va_get (D := D) (ci := 6) (v := .ref (a 1)) (C := RX6) (T := TX6) (N := 9) hx hb htg ig_6 hown hK hP 0 (oh_wg (by decide) (sX_0 hT)) rfl 0 (by decide) (htg _ q_258) (fun _ h9 => h9) rfl dX6_road_88 ?_
                  refine lv_iload_n hx hb dX6_road_91 rfl (lv_at hl 1 rfl) ?_
                  refine lv_iload_n hx hb dX6_road_92 rfl (lv_at hl 2 rfl) ?_
                  refine lv_iload_n hx hb dX6_road_93 rfl (lv_at hl 3 rfl) ?_
                  refine lv_iload hx hb dX6_road_94 (lv_at hl 4 rfl) ?_
                  refine lv_iload hx hb dX6_road_96 (lv_at hl 5 rfl) ?_
                  refine lv_iload hx hb dX6_road_98 (lv_at hl 6 rfl) ?_
                  refine tm_V (As := [.int x1, .int x2, .int x3, .int x4, .int x5, .int x6]) (rest := []) ⟨hx, hb, hml, hown, htg⟩ (e_X0_addRoad l D E G _ a C hT x1 x2 x3 x4 x5 x6 (rg_w u_10 (by decide)) (rg_w u_20 (by decide)) (rg_w (lo := 0) (hi := 23) (rn_ltu (u' := 23) (show ga (C 10) ((0 : Int32)).toNatClampNeg < (24 : Int32) from u_64) (tA_rdc (lo := 0) (hi := 24) (tX_10 hT0) (rg_in (rg_c (v := 0) (lo := 0) (hi := 0) (by decide)) (by decide)) (show _ = 0 by decide) (by decide)) (rg_c (v := 24) (lo := 24) (hi := 24) (by decide)) (by decide)) (by decide))) (cwV 6 htg (oh_gV q_420 q_421 q_422 q_67 q_423) rfl rfl rfl pdVX0_addRoad ⟨Nat.le_of_ble_eq_true rfl, Nat.le_of_ble_eq_true rfl⟩) hK hP hD hG hS hA (va_recv hK hP (ci := 0) (q0 := 1) rfl (oh_wg (by decide) (sX_1 hT))) rfl hl.1 rfl (Nat.le_of_ble_eq_true rfl) dX6_road_100 ⟨Nat.le_of_ble_eq_true rfl, Nat.le_of_ble_eq_true rfl⟩ (fun r_65 C_66 H locs hq_67 hP hD hS => ?_)
                  obtain ⟨hT, f_68, hq_67⟩ := hq_67
                  have hF := fr_tr hF f_68 (by decide) (by decide)
                  refine W.widen (k := 0) (n := 0) (Nat.le_refl _) (Nat.le_refl _) ?_
                  have t_69 := hT
                  rw [hQ]
                  exact W.iret (v := r_65) hx hb hr (fun t ht hW => ⟨⟨r_65, C_66, rfl, ⟨hT, hF, (fun A hA => spX_y (t := 0) hA (by decide) (cntX 0 hT0 (by decide)) ⟨(oh_rgI (p := 0) (q := 15) (rg_w (lo := 0) (hi := 15) u_10 (by decide))), (oh_rgI (p := 0) (q := 15) (rg_w (lo := 0) (hi := 15) u_20 (by decide))), c_21, (oh_rgI (p := 1) (q := 60) (rg_w (lo := 1) (hi := 60) (rn_leu u_36.2 (rn_lel u_36.1 (rg_c (v := 1) (lo := 1) (hi := 1) (by decide)) (rg_any _)) (rg_c (v := 60) (lo := 60) (hi := 60) (by decide))) (by decide))), (oh_rgI (p := 0) (q := 9) (rg_w (lo := 0) (hi := 9) (rn_leu u_46.2 (rn_lel u_46.1 (rg_c (v := 0) (lo := 0) (hi := 0) (by decide)) (rg_any _)) (rg_c (v := 9) (lo := 9) (hi := 9) (by decide))) (by decide))), (oh_rgI (p := 1) (q := 99) (rg_w (lo := 1) (hi := 99) (rn_leu u_56.2 (rn_lel u_56.1 (rg_c (v := 1) (lo := 1) (hi := 1) (by decide)) (rg_any _)) (rg_c (v := 99) (lo := 99) (hi := 99) (by decide))) (by decide))), (oh_rgI (p := 0) (q := 15) (rg_w (lo := 0) (hi := 15) (rn_leu u_60.2 (rn_lel u_60.1 (rg_c (v := 0) (lo := 0) (hi := 0) (by decide)) (rg_any _)) (rg_c (v := 15) (lo := 15) (hi := 15) (by decide))) (by decide)))⟩ u_64 hq_67.1 hq_67.2.1 hq_67.2.2 (fr_ex f_68 11 15 11 (by decide)))⟩, ⟨by rw [ht]; exact hP, hD⟩⟩, hS.F ht⟩) hS.2.2 dX6_road_103
                · have u_70 := hq_62.2.2 c_63
                  refine lv_aload_n hx hb dX6_road_80 rfl (lv_at hl 0 rfl) ?_
                  refine lv_bipush (v := (-6)) hx hb dX6_road_81 (by decide) ?_
                  refine tm_V (As := [.int (-6)]) (rest := []) ⟨hx, hb, hml, hown, htg⟩ (c_X6_refuse l D E G _ a C hT ((-6) : Int32)) (cwV 1 htg (oh_gV q_296 q_298 q_0 q_66 q_299) rfl rfl rfl pdVX6_refuse ⟨Nat.le_of_ble_eq_true rfl, Nat.le_of_ble_eq_true rfl⟩) hK hP hD hG hS hA (va_recv hK hP (ci := 6) (q0 := 0) rfl (oh_wg (by decide) (sX_0 hT))) rfl hl.1 rfl (Nat.le_of_ble_eq_true rfl) dX6_road_83 ⟨Nat.le_of_ble_eq_true rfl, Nat.le_of_ble_eq_true rfl⟩ (fun r_71 C_72 H locs hq_73 hP hD hS => ?_)
                  obtain ⟨hT, f_74, hq_73⟩ := hq_73
                  have hF := fr_tr hF f_74 (by decide) (by decide)
                  refine W.widen (k := 0) (n := 0) (Nat.le_refl _) (Nat.le_refl _) ?_
                  have t_75 := hT
                  rw [hQ]
                  exact W.iret (v := r_71) hx hb hr (fun t ht hW => ⟨⟨r_71, C_72, rfl, ⟨hT, hF, (fun A hA => spX_f hA (by decide) ⟨(oh_rgI (p := 0) (q := 15) (rg_w (lo := 0) (hi := 15) u_10 (by decide))), (oh_rgI (p := 0) (q := 15) (rg_w (lo := 0) (hi := 15) u_20 (by decide))), c_21, (oh_rgI (p := 1) (q := 60) (rg_w (lo := 1) (hi := 60) (rn_leu u_36.2 (rn_lel u_36.1 (rg_c (v := 1) (lo := 1) (hi := 1) (by decide)) (rg_any _)) (rg_c (v := 60) (lo := 60) (hi := 60) (by decide))) (by decide))), (oh_rgI (p := 0) (q := 9) (rg_w (lo := 0) (hi := 9) (rn_leu u_46.2 (rn_lel u_46.1 (rg_c (v := 0) (lo := 0) (hi := 0) (by decide)) (rg_any _)) (rg_c (v := 9) (lo := 9) (hi := 9) (by decide))) (by decide))), (oh_rgI (p := 1) (q := 99) (rg_w (lo := 1) (hi := 99) (rn_leu u_56.2 (rn_lel u_56.1 (rg_c (v := 1) (lo := 1) (hi := 1) (by decide)) (rg_any _)) (rg_c (v := 99) (lo := 99) (hi := 99) (by decide))) (by decide))), (oh_rgI (p := 0) (q := 15) (rg_w (lo := 0) (hi := 15) (rn_leu u_60.2 (rn_lel u_60.1 (rg_c (v := 0) (lo := 0) (hi := 0) (by decide)) (rg_any _)) (rg_c (v := 15) (lo := 15) (hi := 15) (by decide))) (by decide)))⟩ u_70 hq_73 (fun k k1 k2 => (fr_all f_74 10 15 (by decide) k k1 k2)))⟩, ⟨by rw [ht]; exact hP, hD⟩⟩, hS.F ht⟩) hS.2.2 dX6_road_86
              · have u_76 := hq_58.2.2 c_59
                refine lv_aload_n hx hb dX6_road_62 rfl (lv_at hl 0 rfl) ?_
                refine lv_bipush (v := (-2)) hx hb dX6_road_63 (by decide) ?_
                refine tm_V (As := [.int (-2)]) (rest := []) ⟨hx, hb, hml, hown, htg⟩ (c_X6_refuse l D E G _ a C hT ((-2) : Int32)) (cwV 1 htg (oh_gV q_296 q_298 q_0 q_66 q_299) rfl rfl rfl pdVX6_refuse ⟨Nat.le_of_ble_eq_true rfl, Nat.le_of_ble_eq_true rfl⟩) hK hP hD hG hS hA (va_recv hK hP (ci := 6) (q0 := 0) rfl (oh_wg (by decide) (sX_0 hT))) rfl hl.1 rfl (Nat.le_of_ble_eq_true rfl) dX6_road_65 ⟨Nat.le_of_ble_eq_true rfl, Nat.le_of_ble_eq_true rfl⟩ (fun r_77 C_78 H locs hq_79 hP hD hS => ?_)
                obtain ⟨hT, f_80, hq_79⟩ := hq_79
                have hF := fr_tr hF f_80 (by decide) (by decide)
                refine W.widen (k := 0) (n := 0) (Nat.le_refl _) (Nat.le_refl _) ?_
                have t_81 := hT
                rw [hQ]
                exact W.iret (v := r_77) hx hb hr (fun t ht hW => ⟨⟨r_77, C_78, rfl, ⟨hT, hF, (fun A hA => spX_b hA (fun h8 => u_76 h8.2.2.2.2.2.2) hq_79 (fun k k1 k2 => (fr_all f_80 10 15 (by decide) k k1 k2)))⟩, ⟨by rw [ht]; exact hP, hD⟩⟩, hS.F ht⟩) hS.2.2 dX6_road_68

set_option maxHeartbeats 4000000 in
set_option maxRecDepth 100000 in
theorem e_X6_bridge (l : Launch) (D : va_G) (E : Nat → ClassId) (G : Nat → Nat) (sz : Nat) (a : Nat → Nat) (C : Nat → va_E) (hT : TyX a E C) (x1 : Int32) (x2 : Int32) (x3 : Int32) (x4 : Int32) (x5 : Int32) : Met l yX6_bridge (oh_w yX6_bridge cX6_bridge 6 (some .int)) ({ frames := 2, cells := 0, slots := 0, locals := 44 }) (oh_Pm D E G [.ref (a 0), .int x1, .int x2, .int x3, .int x4, .int x5] (oh_W 35 a C) sz) (va_Qi (fun r (u : Nat → va_E) => TyX a E u ∧ fr [(7, 8), (10, 11), (12, 13)] [] C u ∧ (∀ A : LA, absX 10 C A → r = (spRow A 1 16 (okBr (A 5 0 0) x1 x2 x3 x4 x5) (rwf [x1, x2, x3, x4, x5, 0, 0, 0, 0, 0])).1 ∧ absX 10 u (spRow A 1 16 (okBr (A 5 0 0) x1 x2 x3 x4 x5) (rwf [x1, x2, x3, x4, x5, 0, 0, 0, 0, 0])).2)) (oh_B D (va_A (oh_W 35 a C) sz) (fun u => oh_W 35 a u)) (va_A (oh_W 35 a C) sz)) 0 0 (va_A (oh_W 35 a C) sz) := by
  refine Met.ofW (cc := cX6_bridge) (maxL := 6) (ret := (some .int)) (by decide) rfl ?_
  intro p e s m args below meth c s₁ B hml hv
  obtain ⟨rfl, hsz, hP, hK, hD0, hG⟩ := hv
  have hx := B.exec
  have hb := B.bytes
  have hr := B.returns
  have hts := atoms_spec (ws := (oh_w yX6_bridge cX6_bridge 6 (some .int))) B.pre
  have htg : ∀ w ∈ oh_t, w.before _ s = true := fun w h => hts w (List.mem_cons_of_mem _ h)
  have hown : s.vm.findClass RX6 = some m.cls := findClass_of_methodNamed B.named
  have hlocks := B.notSynchronized
  have hT0 := hT
  subst hsz
  have hD := hD0.self (sz := s.heap.size)
  generalize hAe : va_A (oh_W 35 a C) s.heap.size = A at hD hG ⊢
  have hA : ∀ q : Nat, s.heap.size ≤ q → A q := fun q h => by rw [← hAe]; exact Or.inr h
  have hS : va_S A s.heap s.heap [] := va_S.rf
  have hF : fr [(7, 8), (10, 11), (12, 13)] [] C C := fr_rf
  have hl := lv_entry ([.ref (a 0), .int x1, .int x2, .int x3, .int x4, .int x5]) (n := 6) (Nat.le_of_ble_eq_true rfl)
  rw [lg_entry_eq]
  generalize (lg_sl ([.ref (a 0), .int x1, .int x2, .int x3, .int x4, .int x5]) ++ List.replicate (6 - (lg_sl ([.ref (a 0), .int x1, .int x2, .int x3, .int x4, .int x5])).length) Slot.unset).toArray = ls at hl ⊢
  have hl : lv_has ls 6 [(0, .ref (a 0)), (1, .int x1), (2, .int x2), (3, .int x3), (4, .int x4), (5, .int x5)] := hl
  refine oh_genQ (fun Q hQ => ?_)
  refine lv_aload_n hx hb dX6_bridge_0 rfl (lv_at hl 0 rfl) ?_
  refine lv_iload_n hx hb dX6_bridge_1 rfl (lv_at hl 1 rfl) ?_
  refine tq_V (As := [.int x1]) (rest := []) (ws := (oh_W 35 a C)) ⟨hx, hb, hml, hown, htg⟩ (e_X6_isRoad l D E G a C hT x1) (cwV 1 htg (oh_gV q_428 q_430 q_5 q_66 q_431) rfl rfl rfl pdVX6_isRoad ⟨Nat.le_of_ble_eq_true rfl, Nat.le_of_ble_eq_true rfl⟩) hK hP hG hS (va_recv hK hP (ci := 6) (q0 := 0) rfl (oh_wg (by decide) (sX_0 hT))) rfl hl.1 rfl (Nat.le_of_ble_eq_true rfl) dX6_bridge_2 ⟨Nat.le_of_ble_eq_true rfl, Nat.le_of_ble_eq_true rfl⟩ (fun r_1 hq_2 => ?_)
  refine lv_if_eq (tgt := 50) hx hb dX6_bridge_5 (by decide) (fun (c_3 : r_1 = 0) => ?_) (fun (c_3 : ¬ (r_1 = 0)) => ?_)
  · have u_4 := hq_2.2.2 c_3
    refine lv_aload_n hx hb dX6_bridge_50 rfl (lv_at hl 0 rfl) ?_
    refine lv_bipush (v := (-2)) hx hb dX6_bridge_51 (by decide) ?_
    refine tm_V (As := [.int (-2)]) (rest := []) ⟨hx, hb, hml, hown, htg⟩ (c_X6_refuse l D E G _ a C hT ((-2) : Int32)) (cwV 1 htg (oh_gV q_296 q_298 q_0 q_66 q_299) rfl rfl rfl pdVX6_refuse ⟨Nat.le_of_ble_eq_true rfl, Nat.le_of_ble_eq_true rfl⟩) hK hP hD hG hS hA (va_recv hK hP (ci := 6) (q0 := 0) rfl (oh_wg (by decide) (sX_0 hT))) rfl hl.1 rfl (Nat.le_of_ble_eq_true rfl) dX6_bridge_53 ⟨Nat.le_of_ble_eq_true rfl, Nat.le_of_ble_eq_true rfl⟩ (fun r_5 C_6 H locs hq_7 hP hD hS => ?_)
    obtain ⟨hT, f_8, hq_7⟩ := hq_7
    have hF := fr_tr hF f_8 (by decide) (by decide)
    refine W.widen (k := 0) (n := 0) (Nat.le_refl _) (Nat.le_refl _) ?_
    have t_9 := hT
    rw [hQ]
    exact W.iret (v := r_5) hx hb hr (fun t ht hW => ⟨⟨r_5, C_6, rfl, ⟨hT, hF, (fun A hA => by rw [← show ga (C 10) ((0 : Int32)).toNatClampNeg = A 5 0 0 from hA.1 0 (by decide)]; exact spX_b hA (fun h8 => u_4 h8.1) hq_7 (fun k k1 k2 => (fr_all f_8 10 15 (by decide) k k1 k2)))⟩, ⟨by rw [ht]; exact hP, hD⟩⟩, hS.F ht⟩) hS.2.2 dX6_bridge_56
  · have u_10 := hq_2.2.1 c_3
    refine lv_iload_n hx hb dX6_bridge_8 rfl (lv_at hl 2 rfl) ?_
    refine lv_iconst (v := 0) hx hb dX6_bridge_9 (by decide) ?_
    refine lv_iconst (v := 5) hx hb dX6_bridge_10 (by decide) ?_
    refine tq_S (As := [.int x2, .int 0, .int 5]) (rest := []) (ws := []) ⟨hx, hb, hml, hown, htg⟩ (c_X6_within l D E G x2 (0 : Int32) (5 : Int32)) (va_cwS 3 htg (oh_gS q_293 q_294 q_66 q_295) rfl rfl rfl pdX6_within ⟨Nat.le_of_ble_eq_true rfl, Nat.le_of_ble_eq_true rfl⟩) hK va_nil hG hS rfl hl.1 rfl (Nat.le_of_ble_eq_true rfl) dX6_bridge_11 ⟨Nat.le_of_ble_eq_true rfl, Nat.le_of_ble_eq_true rfl⟩ (fun r_11 hq_12 => ?_)
    refine lv_if_eq (tgt := 50) hx hb dX6_bridge_14 (by decide) (fun (c_13 : r_11 = 0) => ?_) (fun (c_13 : ¬ (r_11 = 0)) => ?_)
    · have u_14 := hq_12.2.2 c_13
      refine lv_aload_n hx hb dX6_bridge_50 rfl (lv_at hl 0 rfl) ?_
      refine lv_bipush (v := (-2)) hx hb dX6_bridge_51 (by decide) ?_
      refine tm_V (As := [.int (-2)]) (rest := []) ⟨hx, hb, hml, hown, htg⟩ (c_X6_refuse l D E G _ a C hT ((-2) : Int32)) (cwV 1 htg (oh_gV q_296 q_298 q_0 q_66 q_299) rfl rfl rfl pdVX6_refuse ⟨Nat.le_of_ble_eq_true rfl, Nat.le_of_ble_eq_true rfl⟩) hK hP hD hG hS hA (va_recv hK hP (ci := 6) (q0 := 0) rfl (oh_wg (by decide) (sX_0 hT))) rfl hl.1 rfl (Nat.le_of_ble_eq_true rfl) dX6_bridge_53 ⟨Nat.le_of_ble_eq_true rfl, Nat.le_of_ble_eq_true rfl⟩ (fun r_15 C_16 H locs hq_17 hP hD hS => ?_)
      obtain ⟨hT, f_18, hq_17⟩ := hq_17
      have hF := fr_tr hF f_18 (by decide) (by decide)
      refine W.widen (k := 0) (n := 0) (Nat.le_refl _) (Nat.le_refl _) ?_
      have t_19 := hT
      rw [hQ]
      exact W.iret (v := r_15) hx hb hr (fun t ht hW => ⟨⟨r_15, C_16, rfl, ⟨hT, hF, (fun A hA => by rw [← show ga (C 10) ((0 : Int32)).toNatClampNeg = A 5 0 0 from hA.1 0 (by decide)]; exact spX_b hA (fun h8 => u_14 h8.2.1) hq_17 (fun k k1 k2 => (fr_all f_18 10 15 (by decide) k k1 k2)))⟩, ⟨by rw [ht]; exact hP, hD⟩⟩, hS.F ht⟩) hS.2.2 dX6_bridge_56
    · have u_20 := hq_12.2.1 c_13
      refine lv_iload_n hx hb dX6_bridge_17 rfl (lv_at hl 3 rfl) ?_
      refine lv_iconst (v := 0) hx hb dX6_bridge_18 (by decide) ?_
      refine lv_bipush (v := 60) hx hb dX6_bridge_19 (by decide) ?_
      refine tq_S (As := [.int x3, .int 0, .int 60]) (rest := []) (ws := []) ⟨hx, hb, hml, hown, htg⟩ (c_X6_within l D E G x3 (0 : Int32) (60 : Int32)) (va_cwS 3 htg (oh_gS q_293 q_294 q_66 q_295) rfl rfl rfl pdX6_within ⟨Nat.le_of_ble_eq_true rfl, Nat.le_of_ble_eq_true rfl⟩) hK va_nil hG hS rfl hl.1 rfl (Nat.le_of_ble_eq_true rfl) dX6_bridge_21 ⟨Nat.le_of_ble_eq_true rfl, Nat.le_of_ble_eq_true rfl⟩ (fun r_21 hq_22 => ?_)
      refine lv_if_eq (tgt := 50) hx hb dX6_bridge_24 (by decide) (fun (c_23 : r_21 = 0) => ?_) (fun (c_23 : ¬ (r_21 = 0)) => ?_)
      · have u_24 := hq_22.2.2 c_23
        refine lv_aload_n hx hb dX6_bridge_50 rfl (lv_at hl 0 rfl) ?_
        refine lv_bipush (v := (-2)) hx hb dX6_bridge_51 (by decide) ?_
        refine tm_V (As := [.int (-2)]) (rest := []) ⟨hx, hb, hml, hown, htg⟩ (c_X6_refuse l D E G _ a C hT ((-2) : Int32)) (cwV 1 htg (oh_gV q_296 q_298 q_0 q_66 q_299) rfl rfl rfl pdVX6_refuse ⟨Nat.le_of_ble_eq_true rfl, Nat.le_of_ble_eq_true rfl⟩) hK hP hD hG hS hA (va_recv hK hP (ci := 6) (q0 := 0) rfl (oh_wg (by decide) (sX_0 hT))) rfl hl.1 rfl (Nat.le_of_ble_eq_true rfl) dX6_bridge_53 ⟨Nat.le_of_ble_eq_true rfl, Nat.le_of_ble_eq_true rfl⟩ (fun r_25 C_26 H locs hq_27 hP hD hS => ?_)
        obtain ⟨hT, f_28, hq_27⟩ := hq_27
        have hF := fr_tr hF f_28 (by decide) (by decide)
        refine W.widen (k := 0) (n := 0) (Nat.le_refl _) (Nat.le_refl _) ?_
        have t_29 := hT
        rw [hQ]
        exact W.iret (v := r_25) hx hb hr (fun t ht hW => ⟨⟨r_25, C_26, rfl, ⟨hT, hF, (fun A hA => by rw [← show ga (C 10) ((0 : Int32)).toNatClampNeg = A 5 0 0 from hA.1 0 (by decide)]; exact spX_b hA (fun h8 => u_24 h8.2.2.1) hq_27 (fun k k1 k2 => (fr_all f_28 10 15 (by decide) k k1 k2)))⟩, ⟨by rw [ht]; exact hP, hD⟩⟩, hS.F ht⟩) hS.2.2 dX6_bridge_56
      · have u_30 := hq_22.2.1 c_23
        refine lv_iload hx hb dX6_bridge_27 (lv_at hl 4 rfl) ?_
        refine lv_iconst (v := 1) hx hb dX6_bridge_29 (by decide) ?_
        refine lv_bipush (v := 99) hx hb dX6_bridge_30 (by decide) ?_
        refine tq_S (As := [.int x4, .int 1, .int 99]) (rest := []) (ws := []) ⟨hx, hb, hml, hown, htg⟩ (c_X6_within l D E G x4 (1 : Int32) (99 : Int32)) (va_cwS 3 htg (oh_gS q_293 q_294 q_66 q_295) rfl rfl rfl pdX6_within ⟨Nat.le_of_ble_eq_true rfl, Nat.le_of_ble_eq_true rfl⟩) hK va_nil hG hS rfl hl.1 rfl (Nat.le_of_ble_eq_true rfl) dX6_bridge_32 ⟨Nat.le_of_ble_eq_true rfl, Nat.le_of_ble_eq_true rfl⟩ (fun r_31 hq_32 => ?_)
        refine lv_if_eq (tgt := 50) hx hb dX6_bridge_35 (by decide) (fun (c_33 : r_31 = 0) => ?_) (fun (c_33 : ¬ (r_31 = 0)) => ?_)
        · have u_34 := hq_32.2.2 c_33
          refine lv_aload_n hx hb dX6_bridge_50 rfl (lv_at hl 0 rfl) ?_
          refine lv_bipush (v := (-2)) hx hb dX6_bridge_51 (by decide) ?_
          refine tm_V (As := [.int (-2)]) (rest := []) ⟨hx, hb, hml, hown, htg⟩ (c_X6_refuse l D E G _ a C hT ((-2) : Int32)) (cwV 1 htg (oh_gV q_296 q_298 q_0 q_66 q_299) rfl rfl rfl pdVX6_refuse ⟨Nat.le_of_ble_eq_true rfl, Nat.le_of_ble_eq_true rfl⟩) hK hP hD hG hS hA (va_recv hK hP (ci := 6) (q0 := 0) rfl (oh_wg (by decide) (sX_0 hT))) rfl hl.1 rfl (Nat.le_of_ble_eq_true rfl) dX6_bridge_53 ⟨Nat.le_of_ble_eq_true rfl, Nat.le_of_ble_eq_true rfl⟩ (fun r_35 C_36 H locs hq_37 hP hD hS => ?_)
          obtain ⟨hT, f_38, hq_37⟩ := hq_37
          have hF := fr_tr hF f_38 (by decide) (by decide)
          refine W.widen (k := 0) (n := 0) (Nat.le_refl _) (Nat.le_refl _) ?_
          have t_39 := hT
          rw [hQ]
          exact W.iret (v := r_35) hx hb hr (fun t ht hW => ⟨⟨r_35, C_36, rfl, ⟨hT, hF, (fun A hA => by rw [← show ga (C 10) ((0 : Int32)).toNatClampNeg = A 5 0 0 from hA.1 0 (by decide)]; exact spX_b hA (fun h8 => u_34 h8.2.2.2.1) hq_37 (fun k k1 k2 => (fr_all f_38 10 15 (by decide) k k1 k2)))⟩, ⟨by rw [ht]; exact hP, hD⟩⟩, hS.F ht⟩) hS.2.2 dX6_bridge_56
        · have u_40 := hq_32.2.1 c_33
          refine lv_iload hx hb dX6_bridge_38 (lv_at hl 5 rfl) ?_
          refine lv_iconst (v := 1) hx hb dX6_bridge_40 (by decide) ?_
          refine lv_sipush (v := 999) hx hb dX6_bridge_41 (by decide) ?_
          refine tq_S (As := [.int x5, .int 1, .int 999]) (rest := []) (ws := []) ⟨hx, hb, hml, hown, htg⟩ (c_X6_within l D E G x5 (1 : Int32) (999 : Int32)) (va_cwS 3 htg (oh_gS q_293 q_294 q_66 q_295) rfl rfl rfl pdX6_within ⟨Nat.le_of_ble_eq_true rfl, Nat.le_of_ble_eq_true rfl⟩) hK va_nil hG hS rfl hl.1 rfl (Nat.le_of_ble_eq_true rfl) dX6_bridge_44 ⟨Nat.le_of_ble_eq_true rfl, Nat.le_of_ble_eq_true rfl⟩ (fun r_41 hq_42 => ?_)
          refine lv_if_ne (tgt := 57) hx hb dX6_bridge_47 (by decide) (fun (c_43 : ¬ (r_41 = 0)) => ?_) (fun (c_43 : r_41 = 0) => ?_)
          · have u_44 := hq_42.2.1 c_43
            refine lv_aload_n hx hb dX6_bridge_57 rfl (lv_at hl 0 rfl) ?_
            refine va_get (D := D) (ci := 6) (v := .ref (a 1)) (C := RX6) (T := TX6) (N := 9) hx hb htg ig_6 hown hK hP 0 (oh_wg (by decide) (sX_0 hT)) rfl 0 (by decide) (htg _ q_258) (fun _ h9 => h9) rfl dX6_bridge_58 ?_
            refine lv_iconst (v := 1) hx hb dX6_bridge_61 (by decide) ?_
            refine tq_V (As := [.int 1]) (rest := []) (ws := (oh_W 35 a C)) ⟨hx, hb, hml, hown, htg⟩ (e_X0_hasRoom l D E G a C hT (1 : Int32) (rg_w (rg_c (v := 1) (lo := 1) (hi := 1) (by decide)) (by decide))) (cwV 1 htg (oh_gV q_416 q_417 q_418 q_67 q_419) rfl rfl rfl pdVX0_hasRoom ⟨Nat.le_of_ble_eq_true rfl, Nat.le_of_ble_eq_true rfl⟩) hK hP hG hS (va_recv hK hP (ci := 0) (q0 := 1) rfl (oh_wg (by decide) (sX_1 hT))) rfl hl.1 rfl (Nat.le_of_ble_eq_true rfl) dX6_bridge_62 ⟨Nat.le_of_ble_eq_true rfl, Nat.le_of_ble_eq_true rfl⟩ (fun r_45 hq_46 => ?_)
            refine lv_if_ne (tgt := 75) hx hb dX6_bridge_65 (by decide) (fun (c_47 : ¬ (r_45 = 0)) => ?_) (fun (c_47 : r_45 = 0) => ?_)
            · have u_48 := hq_46.2.1 c_47
              refine lv_aload_n hx hb dX6_bridge_75 rfl (lv_at hl 0 rfl) ?_
              refine va_get (D := D) (ci := 6) (v := .ref (a 1)) (C := RX6) (T := TX6) (N := 9) hx hb htg ig_6 hown hK hP 0 (oh_wg (by decide) (sX_0 hT)) rfl 0 (by decide) (htg _ q_258) (fun _ h9 => h9) rfl dX6_bridge_76 ?_
              refine lv_iload_n hx hb dX6_bridge_79 rfl (lv_at hl 1 rfl) ?_
              refine lv_iload_n hx hb dX6_bridge_80 rfl (lv_at hl 2 rfl) ?_
              refine lv_iload_n hx hb dX6_bridge_81 rfl (lv_at hl 3 rfl) ?_
              refine lv_iload hx hb dX6_bridge_82 (lv_at hl 4 rfl) ?_
              refine lv_iload hx hb dX6_bridge_84 (lv_at hl 5 rfl) ?_
              refine tm_V (As := [.int x1, .int x2, .int x3, .int x4, .int x5]) (rest := []) ⟨hx, hb, hml, hown, htg⟩ (e_X0_addBridge l D E G _ a C hT x1 x2 x3 x4 x5 (rg_w u_10.1 (by decide)) (rg_w (rn_leu u_20.2 (rn_lel u_20.1 (rg_c (v := 0) (lo := 0) (hi := 0) (by decide)) (rg_any _)) (rg_c (v := 5) (lo := 5) (hi := 5) (by decide))) (by decide)) (rg_w (lo := 0) (hi := 15) (rn_ltu (u' := 15) (show ga (C 10) ((1 : Int32)).toNatClampNeg < (16 : Int32) from u_48) (tA_rdc (lo := 0) (hi := 16) (tX_10 hT0) (rg_in (rg_c (v := 1) (lo := 1) (hi := 1) (by decide)) (by decide)) (show _ = 1 by decide) (by decide)) (rg_c (v := 16) (lo := 16) (hi := 16) (by decide)) (by decide)) (by decide))) (cwV 5 htg (oh_gV q_432 q_433 q_434 q_67 q_435) rfl rfl rfl pdVX0_addBridge ⟨Nat.le_of_ble_eq_true rfl, Nat.le_of_ble_eq_true rfl⟩) hK hP hD hG hS hA (va_recv hK hP (ci := 0) (q0 := 1) rfl (oh_wg (by decide) (sX_1 hT))) rfl hl.1 rfl (Nat.le_of_ble_eq_true rfl) dX6_bridge_86 ⟨Nat.le_of_ble_eq_true rfl, Nat.le_of_ble_eq_true rfl⟩ (fun r_49 C_50 H locs hq_51 hP hD hS => ?_)
              obtain ⟨hT, f_52, hq_51⟩ := hq_51
              have hF := fr_tr hF f_52 (by decide) (by decide)
              refine W.widen (k := 0) (n := 0) (Nat.le_refl _) (Nat.le_refl _) ?_
              have t_53 := hT
              rw [hQ]
              exact W.iret (v := r_49) hx hb hr (fun t ht hW => ⟨⟨r_49, C_50, rfl, ⟨hT, hF, (fun A hA => by rw [← show ga (C 10) ((0 : Int32)).toNatClampNeg = A 5 0 0 from hA.1 0 (by decide)]; exact spX_y (t := 1) hA (by decide) (cntX 1 hT0 (by decide)) ⟨u_10.2, (oh_rgI (p := 0) (q := 5) (rg_w (lo := 0) (hi := 5) (rn_leu u_20.2 (rn_lel u_20.1 (rg_c (v := 0) (lo := 0) (hi := 0) (by decide)) (rg_any _)) (rg_c (v := 5) (lo := 5) (hi := 5) (by decide))) (by decide))), (oh_rgI (p := 0) (q := 60) (rg_w (lo := 0) (hi := 60) (rn_leu u_30.2 (rn_lel u_30.1 (rg_c (v := 0) (lo := 0) (hi := 0) (by decide)) (rg_any _)) (rg_c (v := 60) (lo := 60) (hi := 60) (by decide))) (by decide))), (oh_rgI (p := 1) (q := 99) (rg_w (lo := 1) (hi := 99) (rn_leu u_40.2 (rn_lel u_40.1 (rg_c (v := 1) (lo := 1) (hi := 1) (by decide)) (rg_any _)) (rg_c (v := 99) (lo := 99) (hi := 99) (by decide))) (by decide))), (oh_rgI (p := 1) (q := 999) (rg_w (lo := 1) (hi := 999) (rn_leu u_44.2 (rn_lel u_44.1 (rg_c (v := 1) (lo := 1) (hi := 1) (by decide)) (rg_any _)) (rg_c (v := 999) (lo := 999) (hi := 999) (by decide))) (by decide)))⟩ u_48 hq_51.2.1 hq_51.2.2.1 hq_51.2.2.2 (fr_ex f_52 11 15 12 (by decide)))⟩, ⟨by rw [ht]; exact hP, hD⟩⟩, hS.F ht⟩) hS.2.2 dX6_bridge_89
            · have u_54 := hq_46.2.2 c_47
              refine lv_aload_n hx hb dX6_bridge_68 rfl (lv_at hl 0 rfl) ?_
              refine lv_bipush (v := (-6)) hx hb dX6_bridge_69 (by decide) ?_
              refine tm_V (As := [.int (-6)]) (rest := []) ⟨hx, hb, hml, hown, htg⟩ (c_X6_refuse l D E G _ a C hT ((-6) : Int32)) (cwV 1 htg (oh_gV q_296 q_298 q_0 q_66 q_299) rfl rfl rfl pdVX6_refuse ⟨Nat.le_of_ble_eq_true rfl, Nat.le_of_ble_eq_true rfl⟩) hK hP hD hG hS hA (va_recv hK hP (ci := 6) (q0 := 0) rfl (oh_wg (by decide) (sX_0 hT))) rfl hl.1 rfl (Nat.le_of_ble_eq_true rfl) dX6_bridge_71 ⟨Nat.le_of_ble_eq_true rfl, Nat.le_of_ble_eq_true rfl⟩ (fun r_55 C_56 H locs hq_57 hP hD hS => ?_)
              obtain ⟨hT, f_58, hq_57⟩ := hq_57
              have hF := fr_tr hF f_58 (by decide) (by decide)
              refine W.widen (k := 0) (n := 0) (Nat.le_refl _) (Nat.le_refl _) ?_
              have t_59 := hT
              rw [hQ]
              exact W.iret (v := r_55) hx hb hr (fun t ht hW => ⟨⟨r_55, C_56, rfl, ⟨hT, hF, (fun A hA => by rw [← show ga (C 10) ((0 : Int32)).toNatClampNeg = A 5 0 0 from hA.1 0 (by decide)]; exact spX_f hA (by decide) ⟨u_10.2, (oh_rgI (p := 0) (q := 5) (rg_w (lo := 0) (hi := 5) (rn_leu u_20.2 (rn_lel u_20.1 (rg_c (v := 0) (lo := 0) (hi := 0) (by decide)) (rg_any _)) (rg_c (v := 5) (lo := 5) (hi := 5) (by decide))) (by decide))), (oh_rgI (p := 0) (q := 60) (rg_w (lo := 0) (hi := 60) (rn_leu u_30.2 (rn_lel u_30.1 (rg_c (v := 0) (lo := 0) (hi := 0) (by decide)) (rg_any _)) (rg_c (v := 60) (lo := 60) (hi := 60) (by decide))) (by decide))), (oh_rgI (p := 1) (q := 99) (rg_w (lo := 1) (hi := 99) (rn_leu u_40.2 (rn_lel u_40.1 (rg_c (v := 1) (lo := 1) (hi := 1) (by decide)) (rg_any _)) (rg_c (v := 99) (lo := 99) (hi := 99) (by decide))) (by decide))), (oh_rgI (p := 1) (q := 999) (rg_w (lo := 1) (hi := 999) (rn_leu u_44.2 (rn_lel u_44.1 (rg_c (v := 1) (lo := 1) (hi := 1) (by decide)) (rg_any _)) (rg_c (v := 999) (lo := 999) (hi := 999) (by decide))) (by decide)))⟩ u_54 hq_57 (fun k k1 k2 => (fr_all f_58 10 15 (by decide) k k1 k2)))⟩, ⟨by rw [ht]; exact hP, hD⟩⟩, hS.F ht⟩) hS.2.2 dX6_bridge_74
          · have u_60 := hq_42.2.2 c_43
            refine lv_aload_n hx hb dX6_bridge_50 rfl (lv_at hl 0 rfl) ?_
            refine lv_bipush (v := (-2)) hx hb dX6_bridge_51 (by decide) ?_
            refine tm_V (As := [.int (-2)]) (rest := []) ⟨hx, hb, hml, hown, htg⟩ (c_X6_refuse l D E G _ a C hT ((-2) : Int32)) (cwV 1 htg (oh_gV q_296 q_298 q_0 q_66 q_299) rfl rfl rfl pdVX6_refuse ⟨Nat.le_of_ble_eq_true rfl, Nat.le_of_ble_eq_true rfl⟩) hK hP hD hG hS hA (va_recv hK hP (ci := 6) (q0 := 0) rfl (oh_wg (by decide) (sX_0 hT))) rfl hl.1 rfl (Nat.le_of_ble_eq_true rfl) dX6_bridge_53 ⟨Nat.le_of_ble_eq_true rfl, Nat.le_of_ble_eq_true rfl⟩ (fun r_61 C_62 H locs hq_63 hP hD hS => ?_)
            obtain ⟨hT, f_64, hq_63⟩ := hq_63
            have hF := fr_tr hF f_64 (by decide) (by decide)
            refine W.widen (k := 0) (n := 0) (Nat.le_refl _) (Nat.le_refl _) ?_
            have t_65 := hT
            rw [hQ]
            exact W.iret (v := r_61) hx hb hr (fun t ht hW => ⟨⟨r_61, C_62, rfl, ⟨hT, hF, (fun A hA => by rw [← show ga (C 10) ((0 : Int32)).toNatClampNeg = A 5 0 0 from hA.1 0 (by decide)]; exact spX_b hA (fun h8 => u_60 h8.2.2.2.2) hq_63 (fun k k1 k2 => (fr_all f_64 10 15 (by decide) k k1 k2)))⟩, ⟨by rw [ht]; exact hP, hD⟩⟩, hS.F ht⟩) hS.2.2 dX6_bridge_56

set_option maxHeartbeats 4000000 in
set_option maxRecDepth 100000 in
theorem e_X6_waggon (l : Launch) (D : va_G) (E : Nat → ClassId) (G : Nat → Nat) (sz : Nat) (a : Nat → Nat) (C : Nat → va_E) (hT : TyX a E C) (x1 : Int32) (x2 : Int32) (x3 : Int32) : Met l yX6_waggon (oh_w yX6_waggon cX6_waggon 4 (some .int)) ({ frames := 2, cells := 0, slots := 0, locals := 44 }) (oh_Pm D E G [.ref (a 0), .int x1, .int x2, .int x3] (oh_W 35 a C) sz) (va_Qi (fun r (u : Nat → va_E) => TyX a E u ∧ fr [(7, 8), (10, 11), (13, 14)] [] C u ∧ (∀ A : LA, absX 10 C A → r = (spRow A 2 5 (okWg x1 x2 x3) (rwf [x1, x2, x3])).1 ∧ absX 10 u (spRow A 2 5 (okWg x1 x2 x3) (rwf [x1, x2, x3])).2)) (oh_B D (va_A (oh_W 35 a C) sz) (fun u => oh_W 35 a u)) (va_A (oh_W 35 a C) sz)) 0 0 (va_A (oh_W 35 a C) sz) := by
  refine Met.ofW (cc := cX6_waggon) (maxL := 4) (ret := (some .int)) (by decide) rfl ?_
  intro p e s m args below meth c s₁ B hml hv
  obtain ⟨rfl, hsz, hP, hK, hD0, hG⟩ := hv
  have hx := B.exec
  have hb := B.bytes
  have hr := B.returns
  have hts := atoms_spec (ws := (oh_w yX6_waggon cX6_waggon 4 (some .int))) B.pre
  have htg : ∀ w ∈ oh_t, w.before _ s = true := fun w h => hts w (List.mem_cons_of_mem _ h)
  have hown : s.vm.findClass RX6 = some m.cls := findClass_of_methodNamed B.named
  have hlocks := B.notSynchronized
  have hT0 := hT
  subst hsz
  have hD := hD0.self (sz := s.heap.size)
  generalize hAe : va_A (oh_W 35 a C) s.heap.size = A at hD hG ⊢
  have hA : ∀ q : Nat, s.heap.size ≤ q → A q := fun q h => by rw [← hAe]; exact Or.inr h
  have hS : va_S A s.heap s.heap [] := va_S.rf
  have hF : fr [(7, 8), (10, 11), (13, 14)] [] C C := fr_rf
  have hl := lv_entry ([.ref (a 0), .int x1, .int x2, .int x3]) (n := 4) (Nat.le_of_ble_eq_true rfl)
  rw [lg_entry_eq]
  generalize (lg_sl ([.ref (a 0), .int x1, .int x2, .int x3]) ++ List.replicate (4 - (lg_sl ([.ref (a 0), .int x1, .int x2, .int x3])).length) Slot.unset).toArray = ls at hl ⊢
  have hl : lv_has ls 4 [(0, .ref (a 0)), (1, .int x1), (2, .int x2), (3, .int x3)] := hl
  refine oh_genQ (fun Q hQ => ?_)
  refine lv_iload_n hx hb dX6_waggon_0 rfl (lv_at hl 1 rfl) ?_
  refine lv_iconst (v := 2) hx hb dX6_waggon_1 (by decide) ?_
  refine lv_bipush (v := 12) hx hb dX6_waggon_2 (by decide) ?_
  refine tq_S (As := [.int x1, .int 2, .int 12]) (rest := []) (ws := []) ⟨hx, hb, hml, hown, htg⟩ (c_X6_within l D E G x1 (2 : Int32) (12 : Int32)) (va_cwS 3 htg (oh_gS q_293 q_294 q_66 q_295) rfl rfl rfl pdX6_within ⟨Nat.le_of_ble_eq_true rfl, Nat.le_of_ble_eq_true rfl⟩) hK va_nil hG hS rfl hl.1 rfl (Nat.le_of_ble_eq_true rfl) dX6_waggon_4 ⟨Nat.le_of_ble_eq_true rfl, Nat.le_of_ble_eq_true rfl⟩ (fun r_1 hq_2 => ?_)
  refine lv_if_eq (tgt := 30) hx hb dX6_waggon_7 (by decide) (fun (c_3 : r_1 = 0) => ?_) (fun (c_3 : ¬ (r_1 = 0)) => ?_)
  · have u_4 := hq_2.2.2 c_3
    refine lv_aload_n hx hb dX6_waggon_30 rfl (lv_at hl 0 rfl) ?_
    refine lv_bipush (v := (-2)) hx hb dX6_waggon_31 (by decide) ?_
    refine tm_V (As := [.int (-2)]) (rest := []) ⟨hx, hb, hml, hown, htg⟩ (c_X6_refuse l D E G _ a C hT ((-2) : Int32)) (cwV 1 htg (oh_gV q_296 q_298 q_0 q_66 q_299) rfl rfl rfl pdVX6_refuse ⟨Nat.le_of_ble_eq_true rfl, Nat.le_of_ble_eq_true rfl⟩) hK hP hD hG hS hA (va_recv hK hP (ci := 6) (q0 := 0) rfl (oh_wg (by decide) (sX_0 hT))) rfl hl.1 rfl (Nat.le_of_ble_eq_true rfl) dX6_waggon_33 ⟨Nat.le_of_ble_eq_true rfl, Nat.le_of_ble_eq_true rfl⟩ (fun r_5 C_6 H locs hq_7 hP hD hS => ?_)
    obtain ⟨hT, f_8, hq_7⟩ := hq_7
    have hF := fr_tr hF f_8 (by decide) (by decide)
    refine W.widen (k := 0) (n := 0) (Nat.le_refl _) (Nat.le_refl _) ?_
    have t_9 := hT
    rw [hQ]
    exact W.iret (v := r_5) hx hb hr (fun t ht hW => ⟨⟨r_5, C_6, rfl, ⟨hT, hF, (fun A hA => spX_b hA (fun h8 => u_4 h8.1) hq_7 (fun k k1 k2 => (fr_all f_8 10 15 (by decide) k k1 k2)))⟩, ⟨by rw [ht]; exact hP, hD⟩⟩, hS.F ht⟩) hS.2.2 dX6_waggon_36
  · have u_10 := hq_2.2.1 c_3
    refine lv_iload_n hx hb dX6_waggon_10 rfl (lv_at hl 2 rfl) ?_
    refine lv_iconst (v := 1) hx hb dX6_waggon_11 (by decide) ?_
    refine lv_bipush (v := 9) hx hb dX6_waggon_12 (by decide) ?_
    refine tq_S (As := [.int x2, .int 1, .int 9]) (rest := []) (ws := []) ⟨hx, hb, hml, hown, htg⟩ (c_X6_within l D E G x2 (1 : Int32) (9 : Int32)) (va_cwS 3 htg (oh_gS q_293 q_294 q_66 q_295) rfl rfl rfl pdX6_within ⟨Nat.le_of_ble_eq_true rfl, Nat.le_of_ble_eq_true rfl⟩) hK va_nil hG hS rfl hl.1 rfl (Nat.le_of_ble_eq_true rfl) dX6_waggon_14 ⟨Nat.le_of_ble_eq_true rfl, Nat.le_of_ble_eq_true rfl⟩ (fun r_11 hq_12 => ?_)
    refine lv_if_eq (tgt := 30) hx hb dX6_waggon_17 (by decide) (fun (c_13 : r_11 = 0) => ?_) (fun (c_13 : ¬ (r_11 = 0)) => ?_)
    · have u_14 := hq_12.2.2 c_13
      refine lv_aload_n hx hb dX6_waggon_30 rfl (lv_at hl 0 rfl) ?_
      refine lv_bipush (v := (-2)) hx hb dX6_waggon_31 (by decide) ?_
      refine tm_V (As := [.int (-2)]) (rest := []) ⟨hx, hb, hml, hown, htg⟩ (c_X6_refuse l D E G _ a C hT ((-2) : Int32)) (cwV 1 htg (oh_gV q_296 q_298 q_0 q_66 q_299) rfl rfl rfl pdVX6_refuse ⟨Nat.le_of_ble_eq_true rfl, Nat.le_of_ble_eq_true rfl⟩) hK hP hD hG hS hA (va_recv hK hP (ci := 6) (q0 := 0) rfl (oh_wg (by decide) (sX_0 hT))) rfl hl.1 rfl (Nat.le_of_ble_eq_true rfl) dX6_waggon_33 ⟨Nat.le_of_ble_eq_true rfl, Nat.le_of_ble_eq_true rfl⟩ (fun r_15 C_16 H locs hq_17 hP hD hS => ?_)
      obtain ⟨hT, f_18, hq_17⟩ := hq_17
      have hF := fr_tr hF f_18 (by decide) (by decide)
      refine W.widen (k := 0) (n := 0) (Nat.le_refl _) (Nat.le_refl _) ?_
      have t_19 := hT
      rw [hQ]
      exact W.iret (v := r_15) hx hb hr (fun t ht hW => ⟨⟨r_15, C_16, rfl, ⟨hT, hF, (fun A hA => spX_b hA (fun h8 => u_14 h8.2.1) hq_17 (fun k k1 k2 => (fr_all f_18 10 15 (by decide) k k1 k2)))⟩, ⟨by rw [ht]; exact hP, hD⟩⟩, hS.F ht⟩) hS.2.2 dX6_waggon_36
    · have u_20 := hq_12.2.1 c_13
      refine lv_iload_n hx hb dX6_waggon_20 rfl (lv_at hl 3 rfl) ?_
      refine lv_iconst (v := 0) hx hb dX6_waggon_21 (by decide) ?_
      refine lv_bipush (v := 99) hx hb dX6_waggon_22 (by decide) ?_
      refine tq_S (As := [.int x3, .int 0, .int 99]) (rest := []) (ws := []) ⟨hx, hb, hml, hown, htg⟩ (c_X6_within l D E G x3 (0 : Int32) (99 : Int32)) (va_cwS 3 htg (oh_gS q_293 q_294 q_66 q_295) rfl rfl rfl pdX6_within ⟨Nat.le_of_ble_eq_true rfl, Nat.le_of_ble_eq_true rfl⟩) hK va_nil hG hS rfl hl.1 rfl (Nat.le_of_ble_eq_true rfl) dX6_waggon_24 ⟨Nat.le_of_ble_eq_true rfl, Nat.le_of_ble_eq_true rfl⟩ (fun r_21 hq_22 => ?_)
      refine lv_if_ne (tgt := 37) hx hb dX6_waggon_27 (by decide) (fun (c_23 : ¬ (r_21 = 0)) => ?_) (fun (c_23 : r_21 = 0) => ?_)
      · have u_24 := hq_22.2.1 c_23
        refine lv_aload_n hx hb dX6_waggon_37 rfl (lv_at hl 0 rfl) ?_
        refine va_get (D := D) (ci := 6) (v := .ref (a 1)) (C := RX6) (T := TX6) (N := 9) hx hb htg ig_6 hown hK hP 0 (oh_wg (by decide) (sX_0 hT)) rfl 0 (by decide) (htg _ q_258) (fun _ h9 => h9) rfl dX6_waggon_38 ?_
        refine lv_iconst (v := 2) hx hb dX6_waggon_41 (by decide) ?_
        refine tq_V (As := [.int 2]) (rest := []) (ws := (oh_W 35 a C)) ⟨hx, hb, hml, hown, htg⟩ (e_X0_hasRoom l D E G a C hT (2 : Int32) (rg_w (rg_c (v := 2) (lo := 2) (hi := 2) (by decide)) (by decide))) (cwV 1 htg (oh_gV q_416 q_417 q_418 q_67 q_419) rfl rfl rfl pdVX0_hasRoom ⟨Nat.le_of_ble_eq_true rfl, Nat.le_of_ble_eq_true rfl⟩) hK hP hG hS (va_recv hK hP (ci := 0) (q0 := 1) rfl (oh_wg (by decide) (sX_1 hT))) rfl hl.1 rfl (Nat.le_of_ble_eq_true rfl) dX6_waggon_42 ⟨Nat.le_of_ble_eq_true rfl, Nat.le_of_ble_eq_true rfl⟩ (fun r_25 hq_26 => ?_)
        refine lv_if_ne (tgt := 55) hx hb dX6_waggon_45 (by decide) (fun (c_27 : ¬ (r_25 = 0)) => ?_) (fun (c_27 : r_25 = 0) => ?_)
        · have u_28 := hq_26.2.1 c_27
          refine lv_aload_n hx hb dX6_waggon_55 rfl (lv_at hl 0 rfl) ?_
          refine va_get (D := D) (ci := 6) (v := .ref (a 1)) (C := RX6) (T := TX6) (N := 9) hx hb htg ig_6 hown hK hP 0 (oh_wg (by decide) (sX_0 hT)) rfl 0 (by decide) (htg _ q_258) (fun _ h9 => h9) rfl dX6_waggon_56 ?_
          refine lv_iload_n hx hb dX6_waggon_59 rfl (lv_at hl 1 rfl) ?_
          refine lv_iload_n hx hb dX6_waggon_60 rfl (lv_at hl 2 rfl) ?_
          refine lv_iload_n hx hb dX6_waggon_61 rfl (lv_at hl 3 rfl) ?_
          refine tm_V (As := [.int x1, .int x2, .int x3]) (rest := []) ⟨hx, hb, hml, hown, htg⟩ (e_X0_addWaggon l D E G _ a C hT x1 x2 x3 (rg_w (lo := 0) (hi := 4) (rn_ltu (u' := 4) (show ga (C 10) ((2 : Int32)).toNatClampNeg < (5 : Int32) from u_28) (tA_rdc (lo := 0) (hi := 5) (tX_10 hT0) (rg_in (rg_c (v := 2) (lo := 2) (hi := 2) (by decide)) (by decide)) (show _ = 2 by decide) (by decide)) (rg_c (v := 5) (lo := 5) (hi := 5) (by decide)) (by decide)) (by decide))) (cwV 3 htg (oh_gV q_452 q_453 q_454 q_67 q_455) rfl rfl rfl pdVX0_addWaggon ⟨Nat.le_of_ble_eq_true rfl, Nat.le_of_ble_eq_true rfl⟩) hK hP hD hG hS hA (va_recv hK hP (ci := 0) (q0 := 1) rfl (oh_wg (by decide) (sX_1 hT))) rfl hl.1 rfl (Nat.le_of_ble_eq_true rfl) dX6_waggon_62 ⟨Nat.le_of_ble_eq_true rfl, Nat.le_of_ble_eq_true rfl⟩ (fun r_29 C_30 H locs hq_31 hP hD hS => ?_)
          obtain ⟨hT, f_32, hq_31⟩ := hq_31
          have hF := fr_tr hF f_32 (by decide) (by decide)
          refine W.widen (k := 0) (n := 0) (Nat.le_refl _) (Nat.le_refl _) ?_
          have t_33 := hT
          rw [hQ]
          exact W.iret (v := r_29) hx hb hr (fun t ht hW => ⟨⟨r_29, C_30, rfl, ⟨hT, hF, (fun A hA => spX_y (t := 2) hA (by decide) (cntX 2 hT0 (by decide)) ⟨(oh_rgI (p := 2) (q := 12) (rg_w (lo := 2) (hi := 12) (rn_leu u_10.2 (rn_lel u_10.1 (rg_c (v := 2) (lo := 2) (hi := 2) (by decide)) (rg_any _)) (rg_c (v := 12) (lo := 12) (hi := 12) (by decide))) (by decide))), (oh_rgI (p := 1) (q := 9) (rg_w (lo := 1) (hi := 9) (rn_leu u_20.2 (rn_lel u_20.1 (rg_c (v := 1) (lo := 1) (hi := 1) (by decide)) (rg_any _)) (rg_c (v := 9) (lo := 9) (hi := 9) (by decide))) (by decide))), (oh_rgI (p := 0) (q := 99) (rg_w (lo := 0) (hi := 99) (rn_leu u_24.2 (rn_lel u_24.1 (rg_c (v := 0) (lo := 0) (hi := 0) (by decide)) (rg_any _)) (rg_c (v := 99) (lo := 99) (hi := 99) (by decide))) (by decide)))⟩ u_28 hq_31.1 hq_31.2.1 hq_31.2.2 (fr_ex f_32 11 15 13 (by decide)))⟩, ⟨by rw [ht]; exact hP, hD⟩⟩, hS.F ht⟩) hS.2.2 dX6_waggon_65
        · have u_34 := hq_26.2.2 c_27
          refine lv_aload_n hx hb dX6_waggon_48 rfl (lv_at hl 0 rfl) ?_
          refine lv_bipush (v := (-6)) hx hb dX6_waggon_49 (by decide) ?_
          refine tm_V (As := [.int (-6)]) (rest := []) ⟨hx, hb, hml, hown, htg⟩ (c_X6_refuse l D E G _ a C hT ((-6) : Int32)) (cwV 1 htg (oh_gV q_296 q_298 q_0 q_66 q_299) rfl rfl rfl pdVX6_refuse ⟨Nat.le_of_ble_eq_true rfl, Nat.le_of_ble_eq_true rfl⟩) hK hP hD hG hS hA (va_recv hK hP (ci := 6) (q0 := 0) rfl (oh_wg (by decide) (sX_0 hT))) rfl hl.1 rfl (Nat.le_of_ble_eq_true rfl) dX6_waggon_51 ⟨Nat.le_of_ble_eq_true rfl, Nat.le_of_ble_eq_true rfl⟩ (fun r_35 C_36 H locs hq_37 hP hD hS => ?_)
          obtain ⟨hT, f_38, hq_37⟩ := hq_37
          have hF := fr_tr hF f_38 (by decide) (by decide)
          refine W.widen (k := 0) (n := 0) (Nat.le_refl _) (Nat.le_refl _) ?_
          have t_39 := hT
          rw [hQ]
          exact W.iret (v := r_35) hx hb hr (fun t ht hW => ⟨⟨r_35, C_36, rfl, ⟨hT, hF, (fun A hA => spX_f hA (by decide) ⟨(oh_rgI (p := 2) (q := 12) (rg_w (lo := 2) (hi := 12) (rn_leu u_10.2 (rn_lel u_10.1 (rg_c (v := 2) (lo := 2) (hi := 2) (by decide)) (rg_any _)) (rg_c (v := 12) (lo := 12) (hi := 12) (by decide))) (by decide))), (oh_rgI (p := 1) (q := 9) (rg_w (lo := 1) (hi := 9) (rn_leu u_20.2 (rn_lel u_20.1 (rg_c (v := 1) (lo := 1) (hi := 1) (by decide)) (rg_any _)) (rg_c (v := 9) (lo := 9) (hi := 9) (by decide))) (by decide))), (oh_rgI (p := 0) (q := 99) (rg_w (lo := 0) (hi := 99) (rn_leu u_24.2 (rn_lel u_24.1 (rg_c (v := 0) (lo := 0) (hi := 0) (by decide)) (rg_any _)) (rg_c (v := 99) (lo := 99) (hi := 99) (by decide))) (by decide)))⟩ u_34 hq_37 (fun k k1 k2 => (fr_all f_38 10 15 (by decide) k k1 k2)))⟩, ⟨by rw [ht]; exact hP, hD⟩⟩, hS.F ht⟩) hS.2.2 dX6_waggon_54
      · have u_40 := hq_22.2.2 c_23
        refine lv_aload_n hx hb dX6_waggon_30 rfl (lv_at hl 0 rfl) ?_
        refine lv_bipush (v := (-2)) hx hb dX6_waggon_31 (by decide) ?_
        refine tm_V (As := [.int (-2)]) (rest := []) ⟨hx, hb, hml, hown, htg⟩ (c_X6_refuse l D E G _ a C hT ((-2) : Int32)) (cwV 1 htg (oh_gV q_296 q_298 q_0 q_66 q_299) rfl rfl rfl pdVX6_refuse ⟨Nat.le_of_ble_eq_true rfl, Nat.le_of_ble_eq_true rfl⟩) hK hP hD hG hS hA (va_recv hK hP (ci := 6) (q0 := 0) rfl (oh_wg (by decide) (sX_0 hT))) rfl hl.1 rfl (Nat.le_of_ble_eq_true rfl) dX6_waggon_33 ⟨Nat.le_of_ble_eq_true rfl, Nat.le_of_ble_eq_true rfl⟩ (fun r_41 C_42 H locs hq_43 hP hD hS => ?_)
        obtain ⟨hT, f_44, hq_43⟩ := hq_43
        have hF := fr_tr hF f_44 (by decide) (by decide)
        refine W.widen (k := 0) (n := 0) (Nat.le_refl _) (Nat.le_refl _) ?_
        have t_45 := hT
        rw [hQ]
        exact W.iret (v := r_41) hx hb hr (fun t ht hW => ⟨⟨r_41, C_42, rfl, ⟨hT, hF, (fun A hA => spX_b hA (fun h8 => u_40 h8.2.2) hq_43 (fun k k1 k2 => (fr_all f_44 10 15 (by decide) k k1 k2)))⟩, ⟨by rw [ht]; exact hP, hD⟩⟩, hS.F ht⟩) hS.2.2 dX6_waggon_36

set_option maxHeartbeats 4000000 in
set_option maxRecDepth 100000 in
theorem e_X6_part (l : Launch) (D : va_G) (E : Nat → ClassId) (G : Nat → Nat) (sz : Nat) (a : Nat → Nat) (C : Nat → va_E) (hT : TyX a E C) (x1 : Int32) (x2 : Int32) : Met l yX6_part (oh_w yX6_part cX6_part 3 (some .int)) ({ frames := 2, cells := 0, slots := 0, locals := 44 }) (oh_Pm D E G [.ref (a 0), .int x1, .int x2] (oh_W 35 a C) sz) (va_Qi (fun r (u : Nat → va_E) => TyX a E u ∧ fr [(7, 8), (10, 11), (14, 15)] [] C u ∧ (∀ A : LA, absX 10 C A → r = (spRow A 3 5 (okPt x1 x2) (rwf [x1, x2])).1 ∧ absX 10 u (spRow A 3 5 (okPt x1 x2) (rwf [x1, x2])).2)) (oh_B D (va_A (oh_W 35 a C) sz) (fun u => oh_W 35 a u)) (va_A (oh_W 35 a C) sz)) 0 0 (va_A (oh_W 35 a C) sz) := by
  refine Met.ofW (cc := cX6_part) (maxL := 3) (ret := (some .int)) (by decide) rfl ?_
  intro p e s m args below meth c s₁ B hml hv
  obtain ⟨rfl, hsz, hP, hK, hD0, hG⟩ := hv
  have hx := B.exec
  have hb := B.bytes
  have hr := B.returns
  have hts := atoms_spec (ws := (oh_w yX6_part cX6_part 3 (some .int))) B.pre
  have htg : ∀ w ∈ oh_t, w.before _ s = true := fun w h => hts w (List.mem_cons_of_mem _ h)
  have hown : s.vm.findClass RX6 = some m.cls := findClass_of_methodNamed B.named
  have hlocks := B.notSynchronized
  have hT0 := hT
  subst hsz
  have hD := hD0.self (sz := s.heap.size)
  generalize hAe : va_A (oh_W 35 a C) s.heap.size = A at hD hG ⊢
  have hA : ∀ q : Nat, s.heap.size ≤ q → A q := fun q h => by rw [← hAe]; exact Or.inr h
  have hS : va_S A s.heap s.heap [] := va_S.rf
  have hF : fr [(7, 8), (10, 11), (14, 15)] [] C C := fr_rf
  have hl := lv_entry ([.ref (a 0), .int x1, .int x2]) (n := 3) (Nat.le_of_ble_eq_true rfl)
  rw [lg_entry_eq]
  generalize (lg_sl ([.ref (a 0), .int x1, .int x2]) ++ List.replicate (3 - (lg_sl ([.ref (a 0), .int x1, .int x2])).length) Slot.unset).toArray = ls at hl ⊢
  have hl : lv_has ls 3 [(0, .ref (a 0)), (1, .int x1), (2, .int x2)] := hl
  refine oh_genQ (fun Q hQ => ?_)
  refine lv_iload_n hx hb dX6_part_0 rfl (lv_at hl 1 rfl) ?_
  refine lv_iconst (v := 1) hx hb dX6_part_1 (by decide) ?_
  refine lv_bipush (v := 99) hx hb dX6_part_2 (by decide) ?_
  refine tq_S (As := [.int x1, .int 1, .int 99]) (rest := []) (ws := []) ⟨hx, hb, hml, hown, htg⟩ (c_X6_within l D E G x1 (1 : Int32) (99 : Int32)) (va_cwS 3 htg (oh_gS q_293 q_294 q_66 q_295) rfl rfl rfl pdX6_within ⟨Nat.le_of_ble_eq_true rfl, Nat.le_of_ble_eq_true rfl⟩) hK va_nil hG hS rfl hl.1 rfl (Nat.le_of_ble_eq_true rfl) dX6_part_4 ⟨Nat.le_of_ble_eq_true rfl, Nat.le_of_ble_eq_true rfl⟩ (fun r_1 hq_2 => ?_)
  refine lv_if_eq (tgt := 20) hx hb dX6_part_7 (by decide) (fun (c_3 : r_1 = 0) => ?_) (fun (c_3 : ¬ (r_1 = 0)) => ?_)
  · have u_4 := hq_2.2.2 c_3
    refine lv_aload_n hx hb dX6_part_20 rfl (lv_at hl 0 rfl) ?_
    refine lv_bipush (v := (-2)) hx hb dX6_part_21 (by decide) ?_
    refine tm_V (As := [.int (-2)]) (rest := []) ⟨hx, hb, hml, hown, htg⟩ (c_X6_refuse l D E G _ a C hT ((-2) : Int32)) (cwV 1 htg (oh_gV q_296 q_298 q_0 q_66 q_299) rfl rfl rfl pdVX6_refuse ⟨Nat.le_of_ble_eq_true rfl, Nat.le_of_ble_eq_true rfl⟩) hK hP hD hG hS hA (va_recv hK hP (ci := 6) (q0 := 0) rfl (oh_wg (by decide) (sX_0 hT))) rfl hl.1 rfl (Nat.le_of_ble_eq_true rfl) dX6_part_23 ⟨Nat.le_of_ble_eq_true rfl, Nat.le_of_ble_eq_true rfl⟩ (fun r_5 C_6 H locs hq_7 hP hD hS => ?_)
    obtain ⟨hT, f_8, hq_7⟩ := hq_7
    have hF := fr_tr hF f_8 (by decide) (by decide)
    refine W.widen (k := 0) (n := 0) (Nat.le_refl _) (Nat.le_refl _) ?_
    have t_9 := hT
    rw [hQ]
    exact W.iret (v := r_5) hx hb hr (fun t ht hW => ⟨⟨r_5, C_6, rfl, ⟨hT, hF, (fun A hA => spX_b hA (fun h8 => u_4 h8.1) hq_7 (fun k k1 k2 => (fr_all f_8 10 15 (by decide) k k1 k2)))⟩, ⟨by rw [ht]; exact hP, hD⟩⟩, hS.F ht⟩) hS.2.2 dX6_part_26
  · have u_10 := hq_2.2.1 c_3
    refine lv_iload_n hx hb dX6_part_10 rfl (lv_at hl 2 rfl) ?_
    refine lv_iconst (v := 0) hx hb dX6_part_11 (by decide) ?_
    refine lv_bipush (v := 99) hx hb dX6_part_12 (by decide) ?_
    refine tq_S (As := [.int x2, .int 0, .int 99]) (rest := []) (ws := []) ⟨hx, hb, hml, hown, htg⟩ (c_X6_within l D E G x2 (0 : Int32) (99 : Int32)) (va_cwS 3 htg (oh_gS q_293 q_294 q_66 q_295) rfl rfl rfl pdX6_within ⟨Nat.le_of_ble_eq_true rfl, Nat.le_of_ble_eq_true rfl⟩) hK va_nil hG hS rfl hl.1 rfl (Nat.le_of_ble_eq_true rfl) dX6_part_14 ⟨Nat.le_of_ble_eq_true rfl, Nat.le_of_ble_eq_true rfl⟩ (fun r_11 hq_12 => ?_)
    refine lv_if_ne (tgt := 27) hx hb dX6_part_17 (by decide) (fun (c_13 : ¬ (r_11 = 0)) => ?_) (fun (c_13 : r_11 = 0) => ?_)
    · have u_14 := hq_12.2.1 c_13
      refine lv_aload_n hx hb dX6_part_27 rfl (lv_at hl 0 rfl) ?_
      refine va_get (D := D) (ci := 6) (v := .ref (a 1)) (C := RX6) (T := TX6) (N := 9) hx hb htg ig_6 hown hK hP 0 (oh_wg (by decide) (sX_0 hT)) rfl 0 (by decide) (htg _ q_258) (fun _ h9 => h9) rfl dX6_part_28 ?_
      refine lv_iconst (v := 3) hx hb dX6_part_31 (by decide) ?_
      refine tq_V (As := [.int 3]) (rest := []) (ws := (oh_W 35 a C)) ⟨hx, hb, hml, hown, htg⟩ (e_X0_hasRoom l D E G a C hT (3 : Int32) (rg_w (rg_c (v := 3) (lo := 3) (hi := 3) (by decide)) (by decide))) (cwV 1 htg (oh_gV q_416 q_417 q_418 q_67 q_419) rfl rfl rfl pdVX0_hasRoom ⟨Nat.le_of_ble_eq_true rfl, Nat.le_of_ble_eq_true rfl⟩) hK hP hG hS (va_recv hK hP (ci := 0) (q0 := 1) rfl (oh_wg (by decide) (sX_1 hT))) rfl hl.1 rfl (Nat.le_of_ble_eq_true rfl) dX6_part_32 ⟨Nat.le_of_ble_eq_true rfl, Nat.le_of_ble_eq_true rfl⟩ (fun r_15 hq_16 => ?_)
      refine lv_if_ne (tgt := 45) hx hb dX6_part_35 (by decide) (fun (c_17 : ¬ (r_15 = 0)) => ?_) (fun (c_17 : r_15 = 0) => ?_)
      · have u_18 := hq_16.2.1 c_17
        refine lv_aload_n hx hb dX6_part_45 rfl (lv_at hl 0 rfl) ?_
        refine va_get (D := D) (ci := 6) (v := .ref (a 1)) (C := RX6) (T := TX6) (N := 9) hx hb htg ig_6 hown hK hP 0 (oh_wg (by decide) (sX_0 hT)) rfl 0 (by decide) (htg _ q_258) (fun _ h9 => h9) rfl dX6_part_46 ?_
        refine lv_iload_n hx hb dX6_part_49 rfl (lv_at hl 1 rfl) ?_
        refine lv_iload_n hx hb dX6_part_50 rfl (lv_at hl 2 rfl) ?_
        refine tm_V (As := [.int x1, .int x2]) (rest := []) ⟨hx, hb, hml, hown, htg⟩ (e_X0_addPart l D E G _ a C hT x1 x2 (rg_w (lo := 0) (hi := 4) (rn_ltu (u' := 4) (show ga (C 10) ((3 : Int32)).toNatClampNeg < (5 : Int32) from u_18) (tA_rdc (lo := 0) (hi := 5) (tX_10 hT0) (rg_in (rg_c (v := 3) (lo := 3) (hi := 3) (by decide)) (by decide)) (show _ = 3 by decide) (by decide)) (rg_c (v := 5) (lo := 5) (hi := 5) (by decide)) (by decide)) (by decide))) (cwV 2 htg (oh_gV q_460 q_461 q_462 q_67 q_463) rfl rfl rfl pdVX0_addPart ⟨Nat.le_of_ble_eq_true rfl, Nat.le_of_ble_eq_true rfl⟩) hK hP hD hG hS hA (va_recv hK hP (ci := 0) (q0 := 1) rfl (oh_wg (by decide) (sX_1 hT))) rfl hl.1 rfl (Nat.le_of_ble_eq_true rfl) dX6_part_51 ⟨Nat.le_of_ble_eq_true rfl, Nat.le_of_ble_eq_true rfl⟩ (fun r_19 C_20 H locs hq_21 hP hD hS => ?_)
        obtain ⟨hT, f_22, hq_21⟩ := hq_21
        have hF := fr_tr hF f_22 (by decide) (by decide)
        refine W.widen (k := 0) (n := 0) (Nat.le_refl _) (Nat.le_refl _) ?_
        have t_23 := hT
        rw [hQ]
        exact W.iret (v := r_19) hx hb hr (fun t ht hW => ⟨⟨r_19, C_20, rfl, ⟨hT, hF, (fun A hA => spX_y (t := 3) hA (by decide) (cntX 3 hT0 (by decide)) ⟨(oh_rgI (p := 1) (q := 99) (rg_w (lo := 1) (hi := 99) (rn_leu u_10.2 (rn_lel u_10.1 (rg_c (v := 1) (lo := 1) (hi := 1) (by decide)) (rg_any _)) (rg_c (v := 99) (lo := 99) (hi := 99) (by decide))) (by decide))), (oh_rgI (p := 0) (q := 99) (rg_w (lo := 0) (hi := 99) (rn_leu u_14.2 (rn_lel u_14.1 (rg_c (v := 0) (lo := 0) (hi := 0) (by decide)) (rg_any _)) (rg_c (v := 99) (lo := 99) (hi := 99) (by decide))) (by decide)))⟩ u_18 hq_21.1 hq_21.2.1 hq_21.2.2 (fr_ex f_22 11 15 14 (by decide)))⟩, ⟨by rw [ht]; exact hP, hD⟩⟩, hS.F ht⟩) hS.2.2 dX6_part_54
      · have u_24 := hq_16.2.2 c_17
        refine lv_aload_n hx hb dX6_part_38 rfl (lv_at hl 0 rfl) ?_
        refine lv_bipush (v := (-6)) hx hb dX6_part_39 (by decide) ?_
        refine tm_V (As := [.int (-6)]) (rest := []) ⟨hx, hb, hml, hown, htg⟩ (c_X6_refuse l D E G _ a C hT ((-6) : Int32)) (cwV 1 htg (oh_gV q_296 q_298 q_0 q_66 q_299) rfl rfl rfl pdVX6_refuse ⟨Nat.le_of_ble_eq_true rfl, Nat.le_of_ble_eq_true rfl⟩) hK hP hD hG hS hA (va_recv hK hP (ci := 6) (q0 := 0) rfl (oh_wg (by decide) (sX_0 hT))) rfl hl.1 rfl (Nat.le_of_ble_eq_true rfl) dX6_part_41 ⟨Nat.le_of_ble_eq_true rfl, Nat.le_of_ble_eq_true rfl⟩ (fun r_25 C_26 H locs hq_27 hP hD hS => ?_)
        obtain ⟨hT, f_28, hq_27⟩ := hq_27
        have hF := fr_tr hF f_28 (by decide) (by decide)
        refine W.widen (k := 0) (n := 0) (Nat.le_refl _) (Nat.le_refl _) ?_
        have t_29 := hT
        rw [hQ]
        exact W.iret (v := r_25) hx hb hr (fun t ht hW => ⟨⟨r_25, C_26, rfl, ⟨hT, hF, (fun A hA => spX_f hA (by decide) ⟨(oh_rgI (p := 1) (q := 99) (rg_w (lo := 1) (hi := 99) (rn_leu u_10.2 (rn_lel u_10.1 (rg_c (v := 1) (lo := 1) (hi := 1) (by decide)) (rg_any _)) (rg_c (v := 99) (lo := 99) (hi := 99) (by decide))) (by decide))), (oh_rgI (p := 0) (q := 99) (rg_w (lo := 0) (hi := 99) (rn_leu u_14.2 (rn_lel u_14.1 (rg_c (v := 0) (lo := 0) (hi := 0) (by decide)) (rg_any _)) (rg_c (v := 99) (lo := 99) (hi := 99) (by decide))) (by decide)))⟩ u_24 hq_27 (fun k k1 k2 => (fr_all f_28 10 15 (by decide) k k1 k2)))⟩, ⟨by rw [ht]; exact hP, hD⟩⟩, hS.F ht⟩) hS.2.2 dX6_part_44
    · have u_30 := hq_12.2.2 c_13
      refine lv_aload_n hx hb dX6_part_20 rfl (lv_at hl 0 rfl) ?_
      refine lv_bipush (v := (-2)) hx hb dX6_part_21 (by decide) ?_
      refine tm_V (As := [.int (-2)]) (rest := []) ⟨hx, hb, hml, hown, htg⟩ (c_X6_refuse l D E G _ a C hT ((-2) : Int32)) (cwV 1 htg (oh_gV q_296 q_298 q_0 q_66 q_299) rfl rfl rfl pdVX6_refuse ⟨Nat.le_of_ble_eq_true rfl, Nat.le_of_ble_eq_true rfl⟩) hK hP hD hG hS hA (va_recv hK hP (ci := 6) (q0 := 0) rfl (oh_wg (by decide) (sX_0 hT))) rfl hl.1 rfl (Nat.le_of_ble_eq_true rfl) dX6_part_23 ⟨Nat.le_of_ble_eq_true rfl, Nat.le_of_ble_eq_true rfl⟩ (fun r_31 C_32 H locs hq_33 hP hD hS => ?_)
      obtain ⟨hT, f_34, hq_33⟩ := hq_33
      have hF := fr_tr hF f_34 (by decide) (by decide)
      refine W.widen (k := 0) (n := 0) (Nat.le_refl _) (Nat.le_refl _) ?_
      have t_35 := hT
      rw [hQ]
      exact W.iret (v := r_31) hx hb hr (fun t ht hW => ⟨⟨r_31, C_32, rfl, ⟨hT, hF, (fun A hA => spX_b hA (fun h8 => u_30 h8.2) hq_33 (fun k k1 k2 => (fr_all f_34 10 15 (by decide) k k1 k2)))⟩, ⟨by rw [ht]; exact hP, hD⟩⟩, hS.F ht⟩) hS.2.2 dX6_part_26

theorem colX {c : Nat} {C u : Nat → va_E} {A : LA} {b w v : Int32} {uz : Int} (h : absX c C A) (hb : rg b 0 15) (hw : rg w 0 9) (e : ga (u (c + 1 + 1)) = upd (ga (C (c + 1 + 1))) (b * 10 + w).toNatClampNeg v) (e3 : ∀ k, c ≤ k → k ≤ c + 5 → k ≠ c + 1 + 1 → u k = C k) : absX c u (putA A 1 b.toNatClampNeg w.toNatClampNeg v) := by
  rw [oh_rixz (w := 10) hb rfl hw (by decide)] at e
  have e2 := oh_nat hw (by decide)
  exact absX_put h (by decide) (show w.toNatClampNeg < 10 by have := hw.2; omega) e e3

set_option maxHeartbeats 4000000 in
set_option maxRecDepth 100000 in
theorem f_X0_putBridgeColumn (l : Launch) (D : va_G) (E : Nat → ClassId) (G : Nat → Nat) (sz : Nat) (a : Nat → Nat) (C : Nat → va_E) (hT : TyX a E C) (x1 : Int32) (x2 : Int32) (x3 : Int32) (hx1 : rg x1 0 15) (hx2 : rg x2 2 9) : Met l yX0_putBridgeColumn (oh_w yX0_putBridgeColumn cX0_putBridgeColumn 4 none) ({ frames := 0, cells := 0, slots := 0, locals := 0 }) (oh_Pm D E G [.ref (a 1), .int x1, .int x2, .int x3] (oh_W 35 a C) sz) (va_Qv (fun (u : Nat → va_E) => TyX a E u ∧ fr [(12, 13)] [] C u ∧ (ga (u 12) = upd (ga (C 12)) (x1 * 10 + x2).toNatClampNeg x3) ∧ (∀ A : LA, absX 10 C A → absX 10 u (putA A 1 x1.toNatClampNeg x2.toNatClampNeg x3))) (oh_B D (va_A (oh_W 35 a C) sz) (fun u => oh_W 35 a u)) (va_A (oh_W 35 a C) sz)) 0 0 (va_A (oh_W 35 a C) sz) := by
  refine Met.ofW (cc := cX0_putBridgeColumn) (maxL := 4) (ret := none) (by decide) rfl ?_
  intro p e s m args below meth c s₁ B hml hv
  obtain ⟨rfl, hsz, hP, hK, hD0, hG⟩ := hv
  have hx := B.exec
  have hb := B.bytes
  have hr := B.returns
  have hts := atoms_spec (ws := (oh_w yX0_putBridgeColumn cX0_putBridgeColumn 4 none)) B.pre
  have htg : ∀ w ∈ oh_t, w.before _ s = true := fun w h => hts w (List.mem_cons_of_mem _ h)
  have hown : s.vm.findClass RX0 = some m.cls := findClass_of_methodNamed B.named
  have hlocks := B.notSynchronized
  have hT0 := hT
  subst hsz
  have hD := hD0.self (sz := s.heap.size)
  generalize hAe : va_A (oh_W 35 a C) s.heap.size = A at hD hG ⊢
  have hA : ∀ q : Nat, s.heap.size ≤ q → A q := fun q h => by rw [← hAe]; exact Or.inr h
  have hS : va_S A s.heap s.heap [] := va_S.rf
  have hF : fr [(12, 13)] [] C C := fr_rf
  have hl := lv_entry ([.ref (a 1), .int x1, .int x2, .int x3]) (n := 4) (Nat.le_of_ble_eq_true rfl)
  rw [lg_entry_eq]
  generalize (lg_sl ([.ref (a 1), .int x1, .int x2, .int x3]) ++ List.replicate (4 - (lg_sl ([.ref (a 1), .int x1, .int x2, .int x3])).length) Slot.unset).toArray = ls at hl ⊢
  have hl : lv_has ls 4 [(0, .ref (a 1)), (1, .int x1), (2, .int x2), (3, .int x3)] := hl
  refine oh_genQ (fun Q hQ => ?_)
  refine lv_aload_n hx hb dX0_putBridgeColumn_0 rfl (lv_at hl 0 rfl) ?_
  refine va_get (D := D) (ci := 0) (v := .ref (a 12)) (C := RX0) (T := TX0) (N := 8) hx hb htg ig_0 hown hK hP 1 (oh_wg (by decide) (sX_1 hT)) rfl 2 (by decide) (htg _ q_103) (fun _ h9 => h9) rfl dX0_putBridgeColumn_1 ?_
  refine lv_iload_n hx hb dX0_putBridgeColumn_4 rfl (lv_at hl 1 rfl) ?_
  refine lv_bipush (v := 10) hx hb dX0_putBridgeColumn_5 (by decide) ?_
  refine lv_imul hx hb dX0_putBridgeColumn_7 ?_
  refine lv_iload_n hx hb dX0_putBridgeColumn_8 rfl (lv_at hl 2 rfl) ?_
  refine lv_iadd hx hb dX0_putBridgeColumn_9 ?_
  refine lv_iload_n hx hb dX0_putBridgeColumn_10 rfl (lv_at hl 3 rfl) ?_
  have n_1 : vp_in ((x1 * 10) + x2) 160 := (rg_in (rg_add (lo := 2) (hi := 159) (rg_mul (lo := 0) (hi := 150) hx1 (rg_c (v := 10) (lo := 10) (hi := 10) (by decide)) (by decide)) hx2 (by decide)) (by decide))
  refine th_iast (T := TyX a E) (Rl := fr [(12, 13)] [] C) hx hb hK hP hD hS 12 (by decide) (sX_12 hT) n_1 (hT.up 12 (tA_upd (tX_12 hT) (tA_sth (oh_col (W := 10) hx1 rfl hx2 (by decide)) hx2 (by decide)))) (fr_st hF (by decide) (by decide)) dX0_putBridgeColumn_11 (fun C_2 H locs e_3 hT hF hP hD hS => ?_)
  have t_4 := hT
  rw [hQ]
  exact W.vret hx hb hr (fun t ht hW => ⟨⟨C_2, rfl, ⟨hT, hF, ⟨(by rw [(st_ga e_3)]), (fun A hA => colX (uz := 0) hA hx1 (rg_w hx2 (by decide)) (st_ga e_3) (fun k k1 k2 k3 => th_un e_3 k3))⟩⟩, ⟨by rw [ht]; exact hP, hD⟩⟩, hS.F ht⟩) hS.2.2 dX0_putBridgeColumn_12

set_option maxHeartbeats 4000000 in
set_option maxRecDepth 100000 in
theorem f_X0_putProp (l : Launch) (D : va_G) (E : Nat → ClassId) (G : Nat → Nat) (sz : Nat) (a : Nat → Nat) (C : Nat → va_E) (hT : TyX a E C) (x1 : Int32) (x2 : Int32) (x3 : Int32) (hx1 : rg x1 0 15) : Met l yX0_putProp (oh_w yX0_putProp cX0_putProp 4 none) ({ frames := 1, cells := 0, slots := 0, locals := 23 }) (oh_Pm D E G [.ref (a 1), .int x1, .int x2, .int x3] (oh_W 35 a C) sz) (va_Qv (fun (u : Nat → va_E) => TyX a E u ∧ fr [(12, 13)] [] C u ∧ (∀ A : LA, absX 10 C A → absX 10 u (putA (putA A 1 x1.toNatClampNeg 5 x2) 1 x1.toNatClampNeg 6 x3))) (oh_B D (va_A (oh_W 35 a C) sz) (fun u => oh_W 35 a u)) (va_A (oh_W 35 a C) sz)) 0 0 (va_A (oh_W 35 a C) sz) := by
  refine Met.ofW (cc := cX0_putProp) (maxL := 4) (ret := none) (by decide) rfl ?_
  intro p e s m args below meth c s₁ B hml hv
  obtain ⟨rfl, hsz, hP, hK, hD0, hG⟩ := hv
  have hx := B.exec
  have hb := B.bytes
  have hr := B.returns
  have hts := atoms_spec (ws := (oh_w yX0_putProp cX0_putProp 4 none)) B.pre
  have htg : ∀ w ∈ oh_t, w.before _ s = true := fun w h => hts w (List.mem_cons_of_mem _ h)
  have hown : s.vm.findClass RX0 = some m.cls := findClass_of_methodNamed B.named
  have hlocks := B.notSynchronized
  have hT0 := hT
  subst hsz
  have hD := hD0.self (sz := s.heap.size)
  generalize hAe : va_A (oh_W 35 a C) s.heap.size = A at hD hG ⊢
  have hA : ∀ q : Nat, s.heap.size ≤ q → A q := fun q h => by rw [← hAe]; exact Or.inr h
  have hS : va_S A s.heap s.heap [] := va_S.rf
  have hF : fr [(12, 13)] [] C C := fr_rf
  have hl := lv_entry ([.ref (a 1), .int x1, .int x2, .int x3]) (n := 4) (Nat.le_of_ble_eq_true rfl)
  rw [lg_entry_eq]
  generalize (lg_sl ([.ref (a 1), .int x1, .int x2, .int x3]) ++ List.replicate (4 - (lg_sl ([.ref (a 1), .int x1, .int x2, .int x3])).length) Slot.unset).toArray = ls at hl ⊢
  have hl : lv_has ls 4 [(0, .ref (a 1)), (1, .int x1), (2, .int x2), (3, .int x3)] := hl
  refine oh_genQ (fun Q hQ => ?_)
  refine lv_aload_n hx hb dX0_putProp_0 rfl (lv_at hl 0 rfl) ?_
  refine lv_iload_n hx hb dX0_putProp_1 rfl (lv_at hl 1 rfl) ?_
  refine lv_iconst (v := 5) hx hb dX0_putProp_2 (by decide) ?_
  refine lv_iload_n hx hb dX0_putProp_3 rfl (lv_at hl 2 rfl) ?_
  refine tm_Vv (As := [.int x1, .int 5, .int x2]) (rest := []) ⟨hx, hb, hml, hown, htg⟩ (f_X0_putBridgeColumn l D E G _ a C hT x1 (5 : Int32) x2 (rg_w hx1 (by decide)) (rg_w (rg_c (v := 5) (lo := 5) (hi := 5) (by decide)) (by decide))) (cwV 3 htg (oh_gV q_444 q_445 q_446 q_67 q_447) rfl rfl rfl pdVX0_putBridgeColumn ⟨Nat.le_of_ble_eq_true rfl, Nat.le_of_ble_eq_true rfl⟩) hK hP hD hG hS hA (va_recv hK hP (ci := 0) (q0 := 1) rfl (oh_wg (by decide) (sX_1 hT))) rfl hl.1 rfl (Nat.le_of_ble_eq_true rfl) dX0_putProp_4 ⟨Nat.le_of_ble_eq_true rfl, Nat.le_of_ble_eq_true rfl⟩ (fun C_2 H locs hq_3 hP hD hS => ?_)
  obtain ⟨hT, f_4, hq_3⟩ := hq_3
  have hF := fr_tr hF f_4 (by decide) (by decide)
  refine W.widen (k := 0) (n := 0) (Nat.le_refl _) (Nat.le_refl _) ?_
  have t_5 := hT
  refine lv_aload_n hx hb dX0_putProp_7 rfl (lv_at hl 0 rfl) ?_
  refine lv_iload_n hx hb dX0_putProp_8 rfl (lv_at hl 1 rfl) ?_
  refine lv_bipush (v := 6) hx hb dX0_putProp_9 (by decide) ?_
  refine lv_iload_n hx hb dX0_putProp_11 rfl (lv_at hl 3 rfl) ?_
  refine tm_Vv (As := [.int x1, .int 6, .int x3]) (rest := []) ⟨hx, hb, hml, hown, htg⟩ (f_X0_putBridgeColumn l D E G _ a C_2 hT x1 (6 : Int32) x3 (rg_w hx1 (by decide)) (rg_w (rg_c (v := 6) (lo := 6) (hi := 6) (by decide)) (by decide))) (cwV 3 htg (oh_gV q_444 q_445 q_446 q_67 q_447) rfl rfl rfl pdVX0_putBridgeColumn ⟨Nat.le_of_ble_eq_true rfl, Nat.le_of_ble_eq_true rfl⟩) hK hP hD hG hS hA (va_recv hK hP (ci := 0) (q0 := 1) rfl (oh_wg (by decide) (sX_1 hT))) rfl hl.1 rfl (Nat.le_of_ble_eq_true rfl) dX0_putProp_12 ⟨Nat.le_of_ble_eq_true rfl, Nat.le_of_ble_eq_true rfl⟩ (fun C_7 H locs hq_8 hP hD hS => ?_)
  obtain ⟨hT, f_9, hq_8⟩ := hq_8
  have hF := fr_tr hF f_9 (by decide) (by decide)
  refine W.widen (k := 0) (n := 0) (Nat.le_refl _) (Nat.le_refl _) ?_
  have t_10 := hT
  rw [hQ]
  exact W.vret hx hb hr (fun t ht hW => ⟨⟨C_7, rfl, ⟨hT, hF, (fun A hA => hq_8.2 _ (hq_3.2 A hA))⟩, ⟨by rw [ht]; exact hP, hD⟩⟩, hS.F ht⟩) hS.2.2 dX0_putProp_15

set_option maxHeartbeats 4000000 in
set_option maxRecDepth 100000 in
theorem e_X6_prop (l : Launch) (D : va_G) (E : Nat → ClassId) (G : Nat → Nat) (sz : Nat) (a : Nat → Nat) (C : Nat → va_E) (hT : TyX a E C) (x1 : Int32) (x2 : Int32) (x3 : Int32) : Met l yX6_prop (oh_w yX6_prop cX6_prop 4 (some .int)) ({ frames := 2, cells := 0, slots := 0, locals := 46 }) (oh_Pm D E G [.ref (a 0), .int x1, .int x2, .int x3] (oh_W 35 a C) sz) (va_Qi (fun r (u : Nat → va_E) => TyX a E u ∧ fr [(7, 8), (12, 13)] [] C u ∧ (∀ A : LA, absX 10 C A → r = (spProp A x1 x2 x3).1 ∧ absX 10 u (spProp A x1 x2 x3).2)) (oh_B D (va_A (oh_W 35 a C) sz) (fun u => oh_W 35 a u)) (va_A (oh_W 35 a C) sz)) 0 0 (va_A (oh_W 35 a C) sz) := by
  refine Met.ofW (cc := cX6_prop) (maxL := 4) (ret := (some .int)) (by decide) rfl ?_
  intro p e s m args below meth c s₁ B hml hv
  obtain ⟨rfl, hsz, hP, hK, hD0, hG⟩ := hv
  have hx := B.exec
  have hb := B.bytes
  have hr := B.returns
  have hts := atoms_spec (ws := (oh_w yX6_prop cX6_prop 4 (some .int))) B.pre
  have htg : ∀ w ∈ oh_t, w.before _ s = true := fun w h => hts w (List.mem_cons_of_mem _ h)
  have hown : s.vm.findClass RX6 = some m.cls := findClass_of_methodNamed B.named
  have hlocks := B.notSynchronized
  have hT0 := hT
  subst hsz
  have hD := hD0.self (sz := s.heap.size)
  generalize hAe : va_A (oh_W 35 a C) s.heap.size = A at hD hG ⊢
  have hA : ∀ q : Nat, s.heap.size ≤ q → A q := fun q h => by rw [← hAe]; exact Or.inr h
  have hS : va_S A s.heap s.heap [] := va_S.rf
  have hF : fr [(7, 8), (12, 13)] [] C C := fr_rf
  have hl := lv_entry ([.ref (a 0), .int x1, .int x2, .int x3]) (n := 4) (Nat.le_of_ble_eq_true rfl)
  rw [lg_entry_eq]
  generalize (lg_sl ([.ref (a 0), .int x1, .int x2, .int x3]) ++ List.replicate (4 - (lg_sl ([.ref (a 0), .int x1, .int x2, .int x3])).length) Slot.unset).toArray = ls at hl ⊢
  have hl : lv_has ls 4 [(0, .ref (a 0)), (1, .int x1), (2, .int x2), (3, .int x3)] := hl
  refine oh_genQ (fun Q hQ => ?_)
  refine lv_aload_n hx hb dX6_prop_0 rfl (lv_at hl 0 rfl) ?_
  refine lv_iload_n hx hb dX6_prop_1 rfl (lv_at hl 1 rfl) ?_
  refine tq_V (As := [.int x1]) (rest := []) (ws := (oh_W 35 a C)) ⟨hx, hb, hml, hown, htg⟩ (e_X6_isBridge l D E G a C hT x1) (cwV 1 htg (oh_gV q_366 q_368 q_2 q_66 q_369) rfl rfl rfl pdVX6_isBridge ⟨Nat.le_of_ble_eq_true rfl, Nat.le_of_ble_eq_true rfl⟩) hK hP hG hS (va_recv hK hP (ci := 6) (q0 := 0) rfl (oh_wg (by decide) (sX_0 hT))) rfl hl.1 rfl (Nat.le_of_ble_eq_true rfl) dX6_prop_2 ⟨Nat.le_of_ble_eq_true rfl, Nat.le_of_ble_eq_true rfl⟩ (fun r_1 hq_2 => ?_)
  refine lv_if_eq (tgt := 30) hx hb dX6_prop_5 (by decide) (fun (c_3 : r_1 = 0) => ?_) (fun (c_3 : ¬ (r_1 = 0)) => ?_)
  · have u_4 := hq_2.2.2 c_3
    refine lv_aload_n hx hb dX6_prop_30 rfl (lv_at hl 0 rfl) ?_
    refine lv_bipush (v := (-2)) hx hb dX6_prop_31 (by decide) ?_
    refine tm_V (As := [.int (-2)]) (rest := []) ⟨hx, hb, hml, hown, htg⟩ (c_X6_refuse l D E G _ a C hT ((-2) : Int32)) (cwV 1 htg (oh_gV q_296 q_298 q_0 q_66 q_299) rfl rfl rfl pdVX6_refuse ⟨Nat.le_of_ble_eq_true rfl, Nat.le_of_ble_eq_true rfl⟩) hK hP hD hG hS hA (va_recv hK hP (ci := 6) (q0 := 0) rfl (oh_wg (by decide) (sX_0 hT))) rfl hl.1 rfl (Nat.le_of_ble_eq_true rfl) dX6_prop_33 ⟨Nat.le_of_ble_eq_true rfl, Nat.le_of_ble_eq_true rfl⟩ (fun r_5 C_6 H locs hq_7 hP hD hS => ?_)
    obtain ⟨hT, f_8, hq_7⟩ := hq_7
    have hF := fr_tr hF f_8 (by decide) (by decide)
    refine W.widen (k := 0) (n := 0) (Nat.le_refl _) (Nat.le_refl _) ?_
    have t_9 := hT
    rw [hQ]
    exact W.iret (v := r_5) hx hb hr (fun t ht hW => ⟨⟨r_5, C_6, rfl, ⟨hT, hF, (fun A hA => pr_b (pif_neg (by rw [← (show ga (C 10) ((1 : Int32)).toNatClampNeg = A 5 0 1 from hA.1 1 (by decide))]; exact (fun h8 => u_4 h8.1))) hq_7 (absX_eq hA (fun k k1 k2 => (fun k k1 k2 => (fr_all f_8 10 15 (by decide) k k1 k2)) k k1 (by omega))))⟩, ⟨by rw [ht]; exact hP, hD⟩⟩, hS.F ht⟩) hS.2.2 dX6_prop_36
  · have u_10 := hq_2.2.1 c_3
    refine lv_iload_n hx hb dX6_prop_8 rfl (lv_at hl 2 rfl) ?_
    refine lv_iconst (v := 0) hx hb dX6_prop_9 (by decide) ?_
    refine lv_sipush (v := 999) hx hb dX6_prop_10 (by decide) ?_
    refine tq_S (As := [.int x2, .int 0, .int 999]) (rest := []) (ws := []) ⟨hx, hb, hml, hown, htg⟩ (c_X6_within l D E G x2 (0 : Int32) (999 : Int32)) (va_cwS 3 htg (oh_gS q_293 q_294 q_66 q_295) rfl rfl rfl pdX6_within ⟨Nat.le_of_ble_eq_true rfl, Nat.le_of_ble_eq_true rfl⟩) hK va_nil hG hS rfl hl.1 rfl (Nat.le_of_ble_eq_true rfl) dX6_prop_13 ⟨Nat.le_of_ble_eq_true rfl, Nat.le_of_ble_eq_true rfl⟩ (fun r_11 hq_12 => ?_)
    refine lv_if_eq (tgt := 30) hx hb dX6_prop_16 (by decide) (fun (c_13 : r_11 = 0) => ?_) (fun (c_13 : ¬ (r_11 = 0)) => ?_)
    · have u_14 := hq_12.2.2 c_13
      refine lv_aload_n hx hb dX6_prop_30 rfl (lv_at hl 0 rfl) ?_
      refine lv_bipush (v := (-2)) hx hb dX6_prop_31 (by decide) ?_
      refine tm_V (As := [.int (-2)]) (rest := []) ⟨hx, hb, hml, hown, htg⟩ (c_X6_refuse l D E G _ a C hT ((-2) : Int32)) (cwV 1 htg (oh_gV q_296 q_298 q_0 q_66 q_299) rfl rfl rfl pdVX6_refuse ⟨Nat.le_of_ble_eq_true rfl, Nat.le_of_ble_eq_true rfl⟩) hK hP hD hG hS hA (va_recv hK hP (ci := 6) (q0 := 0) rfl (oh_wg (by decide) (sX_0 hT))) rfl hl.1 rfl (Nat.le_of_ble_eq_true rfl) dX6_prop_33 ⟨Nat.le_of_ble_eq_true rfl, Nat.le_of_ble_eq_true rfl⟩ (fun r_15 C_16 H locs hq_17 hP hD hS => ?_)
      obtain ⟨hT, f_18, hq_17⟩ := hq_17
      have hF := fr_tr hF f_18 (by decide) (by decide)
      refine W.widen (k := 0) (n := 0) (Nat.le_refl _) (Nat.le_refl _) ?_
      have t_19 := hT
      rw [hQ]
      exact W.iret (v := r_15) hx hb hr (fun t ht hW => ⟨⟨r_15, C_16, rfl, ⟨hT, hF, (fun A hA => pr_b (pif_neg (by rw [← (show ga (C 10) ((1 : Int32)).toNatClampNeg = A 5 0 1 from hA.1 1 (by decide))]; exact (fun h8 => u_14 h8.2.1))) hq_17 (absX_eq hA (fun k k1 k2 => (fun k k1 k2 => (fr_all f_18 10 15 (by decide) k k1 k2)) k k1 (by omega))))⟩, ⟨by rw [ht]; exact hP, hD⟩⟩, hS.F ht⟩) hS.2.2 dX6_prop_36
    · have u_20 := hq_12.2.1 c_13
      refine lv_iload_n hx hb dX6_prop_19 rfl (lv_at hl 3 rfl) ?_
      refine lv_iconst (v := 0) hx hb dX6_prop_20 (by decide) ?_
      refine lv_sipush (v := 999) hx hb dX6_prop_21 (by decide) ?_
      refine tq_S (As := [.int x3, .int 0, .int 999]) (rest := []) (ws := []) ⟨hx, hb, hml, hown, htg⟩ (c_X6_within l D E G x3 (0 : Int32) (999 : Int32)) (va_cwS 3 htg (oh_gS q_293 q_294 q_66 q_295) rfl rfl rfl pdX6_within ⟨Nat.le_of_ble_eq_true rfl, Nat.le_of_ble_eq_true rfl⟩) hK va_nil hG hS rfl hl.1 rfl (Nat.le_of_ble_eq_true rfl) dX6_prop_24 ⟨Nat.le_of_ble_eq_true rfl, Nat.le_of_ble_eq_true rfl⟩ (fun r_21 hq_22 => ?_)
      refine lv_if_ne (tgt := 37) hx hb dX6_prop_27 (by decide) (fun (c_23 : ¬ (r_21 = 0)) => ?_) (fun (c_23 : r_21 = 0) => ?_)
      · have u_24 := hq_22.2.1 c_23
        refine lv_aload_n hx hb dX6_prop_37 rfl (lv_at hl 0 rfl) ?_
        refine va_get (D := D) (ci := 6) (v := .ref (a 1)) (C := RX6) (T := TX6) (N := 9) hx hb htg ig_6 hown hK hP 0 (oh_wg (by decide) (sX_0 hT)) rfl 0 (by decide) (htg _ q_258) (fun _ h9 => h9) rfl dX6_prop_38 ?_
        refine lv_iload_n hx hb dX6_prop_41 rfl (lv_at hl 1 rfl) ?_
        refine lv_iload_n hx hb dX6_prop_42 rfl (lv_at hl 2 rfl) ?_
        refine lv_iload_n hx hb dX6_prop_43 rfl (lv_at hl 3 rfl) ?_
        refine tm_Vv (As := [.int x1, .int x2, .int x3]) (rest := []) ⟨hx, hb, hml, hown, htg⟩ (f_X0_putProp l D E G _ a C hT x1 x2 x3 (rg_w u_10.1 (by decide))) (cwV 3 htg (oh_gV q_440 q_441 q_442 q_67 q_443) rfl rfl rfl pdVX0_putProp ⟨Nat.le_of_ble_eq_true rfl, Nat.le_of_ble_eq_true rfl⟩) hK hP hD hG hS hA (va_recv hK hP (ci := 0) (q0 := 1) rfl (oh_wg (by decide) (sX_1 hT))) rfl hl.1 rfl (Nat.le_of_ble_eq_true rfl) dX6_prop_44 ⟨Nat.le_of_ble_eq_true rfl, Nat.le_of_ble_eq_true rfl⟩ (fun C_26 H locs hq_27 hP hD hS => ?_)
        obtain ⟨hT, f_28, hq_27⟩ := hq_27
        have hF := fr_tr hF f_28 (by decide) (by decide)
        refine W.widen (k := 0) (n := 0) (Nat.le_refl _) (Nat.le_refl _) ?_
        have t_29 := hT
        refine lv_iconst (v := 1) hx hb dX6_prop_47 (by decide) ?_
        rw [hQ]
        exact W.iret (v := 1) hx hb hr (fun t ht hW => ⟨⟨1, C_26, rfl, ⟨hT, hF, (fun A hA => pr_b (pif_pos (by rw [← (show ga (C 10) ((1 : Int32)).toNatClampNeg = A 5 0 1 from hA.1 1 (by decide))]; exact ⟨u_10.2, (oh_rgI (p := 0) (q := 999) (rg_w (lo := 0) (hi := 999) (rn_leu u_20.2 (rn_lel u_20.1 (rg_c (v := 0) (lo := 0) (hi := 0) (by decide)) (rg_any _)) (rg_c (v := 999) (lo := 999) (hi := 999) (by decide))) (by decide))), (oh_rgI (p := 0) (q := 999) (rg_w (lo := 0) (hi := 999) (rn_leu u_24.2 (rn_lel u_24.1 (rg_c (v := 0) (lo := 0) (hi := 0) (by decide)) (rg_any _)) (rg_c (v := 999) (lo := 999) (hi := 999) (by decide))) (by decide)))⟩)) rfl (hq_27 A hA))⟩, ⟨by rw [ht]; exact hP, hD⟩⟩, hS.F ht⟩) hS.2.2 dX6_prop_48
      · have u_30 := hq_22.2.2 c_23
        refine lv_aload_n hx hb dX6_prop_30 rfl (lv_at hl 0 rfl) ?_
        refine lv_bipush (v := (-2)) hx hb dX6_prop_31 (by decide) ?_
        refine tm_V (As := [.int (-2)]) (rest := []) ⟨hx, hb, hml, hown, htg⟩ (c_X6_refuse l D E G _ a C hT ((-2) : Int32)) (cwV 1 htg (oh_gV q_296 q_298 q_0 q_66 q_299) rfl rfl rfl pdVX6_refuse ⟨Nat.le_of_ble_eq_true rfl, Nat.le_of_ble_eq_true rfl⟩) hK hP hD hG hS hA (va_recv hK hP (ci := 6) (q0 := 0) rfl (oh_wg (by decide) (sX_0 hT))) rfl hl.1 rfl (Nat.le_of_ble_eq_true rfl) dX6_prop_33 ⟨Nat.le_of_ble_eq_true rfl, Nat.le_of_ble_eq_true rfl⟩ (fun r_31 C_32 H locs hq_33 hP hD hS => ?_)
        obtain ⟨hT, f_34, hq_33⟩ := hq_33
        have hF := fr_tr hF f_34 (by decide) (by decide)
        refine W.widen (k := 0) (n := 0) (Nat.le_refl _) (Nat.le_refl _) ?_
        have t_35 := hT
        rw [hQ]
        exact W.iret (v := r_31) hx hb hr (fun t ht hW => ⟨⟨r_31, C_32, rfl, ⟨hT, hF, (fun A hA => pr_b (pif_neg (by rw [← (show ga (C 10) ((1 : Int32)).toNatClampNeg = A 5 0 1 from hA.1 1 (by decide))]; exact (fun h8 => u_30 h8.2.2))) hq_33 (absX_eq hA (fun k k1 k2 => (fun k k1 k2 => (fr_all f_34 10 15 (by decide) k k1 k2)) k k1 (by omega))))⟩, ⟨by rw [ht]; exact hP, hD⟩⟩, hS.F ht⟩) hS.2.2 dX6_prop_36
