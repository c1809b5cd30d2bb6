theorem relW_row {C u : Nat → va_E} {w : Nat} {mf : List Nat} (h : RelW C) (hf : fr [(64 + w, 64 + w + 1)] mf C u) (hw : (w : Int) = (gi (C 0) 13).toInt) (hd : mf.contains 13 = false) : RelW u := by
  have e0 : gi (u 0) 13 = gi (C 0) 13 := congrArg vi (hf.2 13 (by simpa using hd))
  have e14 : u 14 = C 14 := fr_at hf (by decide) (by omega)
  refine ⟨fun i hi hl => ?_, fun h9 => ?_⟩
  · rw [e0] at hl
    rw [fr_at hf (by omega) (by omega)]
    exact h.1 i hi hl
  · rw [e14] at h9 ⊢
    rw [e0]
    exact h.2 h9
theorem relW_inc {C u : Nat → va_E} {w : Nat} (h : RelW C) (hw : (w : Int) = (gi (C 0) 13).toInt) (e : ∀ k, k ≠ 0 → u k = C k) (e13 : (gi (u 0) 13).toInt = (gi (C 0) 13).toInt + 1) (r0 : 1 ≤ (ga (C (64 + w)) ((0 : Int32)).toNatClampNeg).toInt) (r1 : 1 ≤ (ga (C (64 + w)) ((1 : Int32)).toNatClampNeg).toInt) : RelW u :=
  oh_relWadd h hw e13 (fun i hi hne => e _ (by omega)) (by rw [e _ (by omega)]; exact r0) (by rw [e _ (by omega)]; exact r1) (e 14 (by decide))
theorem relW_back {C0 C u : Nat → va_E} (h0 : RelW C0) (h : RelW C) (er : ∀ i, i < 5 → u (64 + i) = C (64 + i)) (e13 : (gi (u 0) 13).toInt = (gi (C0 0) 13).toInt) (hle : (gi (C0 0) 13).toInt ≤ (gi (C 0) 13).toInt) (e14 : u 14 = C0 14) : RelW u := by
  refine ⟨fun i hi hl => ?_, fun h9 => ?_⟩
  · rw [er i hi]
    exact h.1 i hi (by omega)
  · rw [e14] at h9 ⊢
    have := h0.2 h9
    omega

set_option maxHeartbeats 4000000 in
set_option maxRecDepth 100000 in
theorem c_X7_roadTold (l : Launch) (D : va_G) (E : Nat → ClassId) (G : Nat → Nat) (sz : Nat) (a : Nat → Nat) (C : Nat → va_E) (n : Nat) (hn : 74 ≤ n) (hT : TyM a E C) (h9 : rg (gi (C 0) 9) 0 23) (hat : (gi (C 0) 21).toInt ≤ (gi (C 0) 7).toInt) : Met l yX7_roadTold (oh_w yX7_roadTold cX7_roadTold 2 (some .boolean)) ({ frames := 7, cells := 0, slots := 0, locals := 157 }) (oh_Pm D E G [.ref (a 0), .ref (a (24 + (gi (C 0) 9).toNatClampNeg))] (oh_W n a C) sz) (va_Qi (fun r (u : Nat → va_E) => TyM a E u ∧ fr [(24, 48)] [9, 21, 22, 23, 24, 25] C u ∧ (r = 0 ∨ r = 1) ∧ (((gi (C 0) 21).toInt ≤ (gi (u 0) 21).toInt) ∧ ((gi (u 0) 21).toInt ≤ (gi (u 0) 7).toInt))) (oh_B D (va_A (oh_W n a C) sz) (fun u => oh_W n a u)) (va_A (oh_W n a C) sz)) 0 0 (va_A (oh_W n a C) sz) := by
  refine Met.ofW (cc := cX7_roadTold) (maxL := 2) (ret := (some .boolean)) (by decide) rfl ?_
  intro p e s m args below meth c s₁ B hml hv
  obtain ⟨rfl, hsz, hP, hK, hD0, hG⟩ := hv
  have hx := B.exec
  have hb := B.bytes
  have hr := B.returns
  have hts := atoms_spec (ws := (oh_w yX7_roadTold cX7_roadTold 2 (some .boolean))) B.pre
  have htg : ∀ w ∈ oh_t, w.before _ s = true := fun w h => hts w (List.mem_cons_of_mem _ h)
  have hown : s.vm.findClass RX7 = some m.cls := findClass_of_methodNamed B.named
  have hlocks := B.notSynchronized
  have hT0 := hT
  subst hsz
  have hD := hD0.self (sz := s.heap.size)
  generalize hAe : va_A (oh_W n a C) s.heap.size = A at hD hG ⊢
  have hA : ∀ q : Nat, s.heap.size ≤ q → A q := fun q h => by rw [← hAe]; exact Or.inr h
  have hS : va_S A s.heap s.heap [] := va_S.rf
  have hF : fr [(24, 48)] [9, 21, 22, 23, 24, 25] C C := fr_rf
  have hl := lv_entry ([.ref (a 0), .ref (a (24 + (gi (C 0) 9).toNatClampNeg))]) (n := 2) (Nat.le_of_ble_eq_true rfl)
  rw [lg_entry_eq]
  generalize (lg_sl ([.ref (a 0), .ref (a (24 + (gi (C 0) 9).toNatClampNeg))]) ++ List.replicate (2 - (lg_sl ([.ref (a 0), .ref (a (24 + (gi (C 0) 9).toNatClampNeg))])).length) Slot.unset).toArray = ls at hl ⊢
  have hl : lv_has ls 2 [(0, .ref (a 0)), (1, .ref (a (24 + (gi (C 0) 9).toNatClampNeg)))] := hl
  refine oh_genQ (fun Q hQ => ?_)
  have hb0 : (gi (C 0) 9).toNatClampNeg < 24 := vp_lt (rg_in h9 (by decide))
  refine lv_aload_n hx hb dX7_roadTold_0 rfl (lv_at hl 0 rfl) ?_
  refine lv_iconst (v := 0) hx hb dX7_roadTold_1 (by decide) ?_
  refine lv_iconst (v := 0) hx hb dX7_roadTold_2 (by decide) ?_
  refine tm_Vv (As := [.int 0, .int 0]) (rest := []) ⟨hx, hb, hml, hown, htg⟩ (c_X7_newRoad l D E G _ a C n hn hT (0 : Int32) (0 : Int32) (rg_w (rg_c (v := 0) (lo := 0) (hi := 0) (by decide)) (by decide)) (rg_w (rg_c (v := 0) (lo := 0) (hi := 0) (by decide)) (by decide)) (rg_w (lo := 0) (hi := 23) h9 (by decide))) (cwV 2 htg (oh_gV q_1137 q_1139 q_35 q_73 q_1140) rfl rfl rfl pdVX7_newRoad ⟨Nat.le_of_ble_eq_true rfl, Nat.le_of_ble_eq_true rfl⟩) hK hP hD hG hS hA (va_recv hK hP (ci := 7) (q0 := 0) rfl (oh_wg (Nat.lt_of_lt_of_le (by decide) hn) (sM_0 hT))) rfl hl.1 rfl (Nat.le_of_ble_eq_true rfl) dX7_roadTold_3 ⟨Nat.le_of_ble_eq_true rfl, Nat.le_of_ble_eq_true rfl⟩ (fun C_2 H locs hq_3 hP hD hS => ?_)
  obtain ⟨hT, f_4, hq_3⟩ := hq_3
  have hF := fr_tr hF f_4 (by decide) (by decide)
  refine W.widen (k := 0) (n := 0) (Nat.le_refl _) (Nat.le_refl _) ?_
  have t_5 := hT
  refine lv_aload_n hx hb dX7_roadTold_6 rfl (lv_at hl 0 rfl) ?_
  have : (gi (C_2 0) 21).toInt = (gi (C 0) 21).toInt := congrArg (fun z => (vi z).toInt) (f_4.2 21 (by decide))
  have : (gi (C_2 0) 7).toInt = (gi (C 0) 7).toInt := congrArg (fun z => (vi z).toInt) (f_4.2 7 (by decide))
  have : (gi (C_2 0) 23).toInt = (gi (C 0) 23).toInt := congrArg (fun z => (vi z).toInt) (f_4.2 23 (by decide))
  have : (gi (C_2 0) 13).toInt = (gi (C 0) 13).toInt := congrArg (fun z => (vi z).toInt) (f_4.2 13 (by decide))
  have : 0 ≤ (gi (C 0) 21).toInt ∧ (gi (C 0) 21).toInt ≤ 250 := fM_0_21 hT0
  have : 0 ≤ (gi (C 0) 7).toInt ∧ (gi (C 0) 7).toInt ≤ 250 := fM_0_7 hT0
  have : 0 ≤ (gi (C 0) 23).toInt ∧ (gi (C 0) 23).toInt ≤ 250 := fM_0_23 hT0
  have : 0 ≤ (gi (C 0) 13).toInt ∧ (gi (C 0) 13).toInt ≤ 5 := fM_0_13 hT0
  have : 0 ≤ (gi (C_2 0) 21).toInt ∧ (gi (C_2 0) 21).toInt ≤ 250 := fM_0_21 t_5
  have : 0 ≤ (gi (C_2 0) 7).toInt ∧ (gi (C_2 0) 7).toInt ≤ 250 := fM_0_7 t_5
  have : 0 ≤ (gi (C_2 0) 23).toInt ∧ (gi (C_2 0) 23).toInt ≤ 250 := fM_0_23 t_5
  have : 0 ≤ (gi (C_2 0) 13).toInt ∧ (gi (C_2 0) 13).toInt ≤ 5 := fM_0_13 t_5
  refine tm_Vv (As := []) (rest := []) ⟨hx, hb, hml, hown, htg⟩ (c_X7_look l D E G _ a C_2 n hn hT (by omega)) (cwV 0 htg (oh_gV q_1197 q_1199 q_39 q_73 q_1200) rfl rfl rfl pdVX7_look ⟨Nat.le_of_ble_eq_true rfl, Nat.le_of_ble_eq_true rfl⟩) hK hP hD hG hS hA (va_recv hK hP (ci := 7) (q0 := 0) rfl (oh_wg (Nat.lt_of_lt_of_le (by decide) hn) (sM_0 hT))) rfl hl.1 rfl (Nat.le_of_ble_eq_true rfl) dX7_roadTold_7 ⟨Nat.le_of_ble_eq_true rfl, Nat.le_of_ble_eq_true rfl⟩ (fun C_7 H locs hq_8 hP hD hS => ?_)
  obtain ⟨hT, f_9, hq_8⟩ := hq_8
  have hF := fr_tr hF f_9 (by decide) (by decide)
  refine W.widen (k := 0) (n := 0) (Nat.le_refl _) (Nat.le_refl _) ?_
  have t_10 := hT
  refine lv_aload_n hx hb dX7_roadTold_10 rfl (lv_at hl 0 rfl) ?_
  refine lv_aload_n hx hb dX7_roadTold_11 rfl (lv_at hl 1 rfl) ?_
  refine lv_iconst (v := 0) hx hb dX7_roadTold_12 (by decide) ?_
  refine lv_iconst (v := 0) hx hb dX7_roadTold_13 (by decide) ?_
  refine lv_bipush (v := 15) hx hb dX7_roadTold_14 (by decide) ?_
  have : (gi (C_7 0) 7).toInt = (gi (C_2 0) 7).toInt := congrArg (fun z => (vi z).toInt) (f_9.2 7 (by decide))
  have : (gi (C_7 0) 13).toInt = (gi (C_2 0) 13).toInt := congrArg (fun z => (vi z).toInt) (f_9.2 13 (by decide))
  have : 0 ≤ (gi (C_7 0) 21).toInt ∧ (gi (C_7 0) 21).toInt ≤ 250 := fM_0_21 t_10
  have : 0 ≤ (gi (C_7 0) 7).toInt ∧ (gi (C_7 0) 7).toInt ≤ 250 := fM_0_7 t_10
  have : 0 ≤ (gi (C_7 0) 23).toInt ∧ (gi (C_7 0) 23).toInt ≤ 250 := fM_0_23 t_10
  have : 0 ≤ (gi (C_7 0) 13).toInt ∧ (gi (C_7 0) 13).toInt ≤ 5 := fM_0_13 t_10
  refine tm_V (As := [.ref (a (24 + (gi (C 0) 9).toNatClampNeg)), .int 0, .int 0, .int 15]) (rest := []) ⟨hx, hb, hml, hown, htg⟩ (c_X7_number l D E G _ a C_7 n hn hT (24 + (gi (C 0) 9).toNatClampNeg) (0 : Int32) (0 : Int32) (15 : Int32) ⟨(lt_blk hb0 hn (by decide)), (by omega), 7, fun C h => (h.broad hb0).1, (rg_in (rg_c (v := 0) (lo := 0) (hi := 0) (by decide)) (by decide)), fun C v h h1 h2 => (h.uproad hb0 (tA_upd (h.broad hb0) (tA_stc (k := 0) (by decide) (oh_rgle (lo := 0) (hi := 15) h1 h2 (by decide)) (by decide))))⟩ (by omega)) (cwV 4 htg (oh_gV q_1225 q_1227 q_43 q_73 q_1228) rfl rfl rfl pdVX7_number ⟨Nat.le_of_ble_eq_true rfl, Nat.le_of_ble_eq_true rfl⟩) hK hP hD hG hS hA (va_recv hK hP (ci := 7) (q0 := 0) rfl (oh_wg (Nat.lt_of_lt_of_le (by decide) hn) (sM_0 hT))) rfl hl.1 rfl (Nat.le_of_ble_eq_true rfl) dX7_roadTold_16 ⟨Nat.le_of_ble_eq_true rfl, Nat.le_of_ble_eq_true rfl⟩ (fun r_11 C_12 H locs hq_13 hP hD hS => ?_)
  obtain ⟨hT, f_14, hq_13⟩ := hq_13
  have hF := fr_trk hF f_14 (inR_of (p := (24, 48)) (by decide) (by show 24 ≤ _; omega) (by show _ < 48; omega)) (by decide)
  refine W.widen (k := 0) (n := 0) (Nat.le_refl _) (Nat.le_refl _) ?_
  have t_15 := hT
  refine lv_if_ne (tgt := 24) hx hb dX7_roadTold_19 (by decide) (fun (c_16 : ¬ (r_11 = 0)) => ?_) (fun (c_16 : r_11 = 0) => ?_)
  · have u_17 := hq_13.2.2.2 c_16
    refine lv_aload_n hx hb dX7_roadTold_24 rfl (lv_at hl 0 rfl) ?_
    refine va_get (D := D) (ci := 7) (v := .int (gi (C_12 0) 22)) (C := RX7) (T := TX7) (N := 29) hx hb htg ig_7 hown hK hP 0 (oh_wg (Nat.lt_of_lt_of_le (by decide) hn) (sM_0 hT)) rfl 22 (by decide) (htg _ q_995) (fun _ h9 => h9) rfl dX7_roadTold_25 ?_
    refine lv_iconst (v := 2) hx hb dX7_roadTold_28 (by decide) ?_
    refine lv_icmp_ne (tgt := 49) hx hb dX7_roadTold_29 (by decide) (fun (c_18 : ¬ ((gi (C_12 0) 22) = 2)) => ?_) (fun (c_18 : (gi (C_12 0) 22) = 2) => ?_)
    · refine lv_aload_n hx hb dX7_roadTold_49 rfl (lv_at hl 0 rfl) ?_
      refine lv_aload_n hx hb dX7_roadTold_50 rfl (lv_at hl 1 rfl) ?_
      refine lv_iconst (v := 1) hx hb dX7_roadTold_51 (by decide) ?_
      refine lv_iconst (v := 0) hx hb dX7_roadTold_52 (by decide) ?_
      refine lv_bipush (v := 15) hx hb dX7_roadTold_53 (by decide) ?_
      have : (gi (C_12 0) 7).toInt = (gi (C_7 0) 7).toInt := congrArg (fun z => (vi z).toInt) (f_14.2 7 (by decide))
      have : (gi (C_12 0) 13).toInt = (gi (C_7 0) 13).toInt := congrArg (fun z => (vi z).toInt) (f_14.2 13 (by decide))
      have : 0 ≤ (gi (C_12 0) 21).toInt ∧ (gi (C_12 0) 21).toInt ≤ 250 := fM_0_21 t_15
      have : 0 ≤ (gi (C_12 0) 7).toInt ∧ (gi (C_12 0) 7).toInt ≤ 250 := fM_0_7 t_15
      have : 0 ≤ (gi (C_12 0) 23).toInt ∧ (gi (C_12 0) 23).toInt ≤ 250 := fM_0_23 t_15
      have : 0 ≤ (gi (C_12 0) 13).toInt ∧ (gi (C_12 0) 13).toInt ≤ 5 := fM_0_13 t_15
      have : (2 : Int32).toInt = 2 := rfl
      have : ¬ (gi (C_12 0) 22).toInt = (2 : Int32).toInt := fun h7 => c_18 (Int32.toInt_inj.mp h7)
      refine tm_V (As := [.ref (a (24 + (gi (C 0) 9).toNatClampNeg)), .int 1, .int 0, .int 15]) (rest := []) ⟨hx, hb, hml, hown, htg⟩ (c_X7_number l D E G _ a C_12 n hn hT (24 + (gi (C 0) 9).toNatClampNeg) (1 : Int32) (0 : Int32) (15 : Int32) ⟨(lt_blk hb0 hn (by decide)), (by omega), 7, fun C h => (h.broad hb0).1, (rg_in (rg_c (v := 1) (lo := 1) (hi := 1) (by decide)) (by decide)), fun C v h h1 h2 => (h.uproad hb0 (tA_upd (h.broad hb0) (tA_stc (k := 1) (by decide) (oh_rgle (lo := 0) (hi := 15) h1 h2 (by decide)) (by decide))))⟩ (by omega)) (cwV 4 htg (oh_gV q_1225 q_1227 q_43 q_73 q_1228) rfl rfl rfl pdVX7_number ⟨Nat.le_of_ble_eq_true rfl, Nat.le_of_ble_eq_true rfl⟩) hK hP hD hG hS hA (va_recv hK hP (ci := 7) (q0 := 0) rfl (oh_wg (Nat.lt_of_lt_of_le (by decide) hn) (sM_0 hT))) rfl hl.1 rfl (Nat.le_of_ble_eq_true rfl) dX7_roadTold_55 ⟨Nat.le_of_ble_eq_true rfl, Nat.le_of_ble_eq_true rfl⟩ (fun r_19 C_20 H locs hq_21 hP hD hS => ?_)
      obtain ⟨hT, f_22, hq_21⟩ := hq_21
      have hF := fr_trk hF f_22 (inR_of (p := (24, 48)) (by decide) (by show 24 ≤ _; omega) (by show _ < 48; omega)) (by decide)
      refine W.widen (k := 0) (n := 0) (Nat.le_refl _) (Nat.le_refl _) ?_
      have t_23 := hT
      refine lv_if_eq (tgt := 75) hx hb dX7_roadTold_58 (by decide) (fun (c_24 : r_19 = 0) => ?_) (fun (c_24 : ¬ (r_19 = 0)) => ?_)
      · refine lv_iconst (v := 0) hx hb dX7_roadTold_75 (by decide) ?_
        have : (gi (C_20 0) 7).toInt = (gi (C_12 0) 7).toInt := congrArg (fun z => (vi z).toInt) (f_22.2 7 (by decide))
        have : (gi (C_20 0) 13).toInt = (gi (C_12 0) 13).toInt := congrArg (fun z => (vi z).toInt) (f_22.2 13 (by decide))
        have : 0 ≤ (gi (C_20 0) 21).toInt ∧ (gi (C_20 0) 21).toInt ≤ 250 := fM_0_21 t_23
        have : 0 ≤ (gi (C_20 0) 7).toInt ∧ (gi (C_20 0) 7).toInt ≤ 250 := fM_0_7 t_23
        have : 0 ≤ (gi (C_20 0) 23).toInt ∧ (gi (C_20 0) 23).toInt ≤ 250 := fM_0_23 t_23
        have : 0 ≤ (gi (C_20 0) 13).toInt ∧ (gi (C_20 0) 13).toInt ≤ 5 := fM_0_13 t_23
        rw [hQ]
        exact W.zret (v := 0) (ty := .boolean) hx hb hr (by decide) (fun t ht hW => ⟨⟨0, C_20, rfl, ⟨hT, hF, ⟨(Or.inl rfl), ⟨(by omega), hq_21.2.1.2⟩⟩⟩, ⟨by rw [ht]; exact hP, hD⟩⟩, hS.F ht⟩) hS.2.2 dX7_roadTold_76
      · have u_25 := hq_21.2.2.2 c_24
        refine lv_aload_n hx hb dX7_roadTold_61 rfl (lv_at hl 0 rfl) ?_
        refine va_ldcS hx hb hown (hG.2.2.1 ("OneHeavyLoadModel", 219, "miles", 21) (List.mem_of_getElem? (i := 18) rfl)) dX7_roadTold_62 ?_
        refine lv_aload_n hx hb dX7_roadTold_64 rfl (lv_at hl 1 rfl) ?_
        refine lv_iconst (v := 2) hx hb dX7_roadTold_65 (by decide) ?_
        refine lv_iconst (v := 1) hx hb dX7_roadTold_66 (by decide) ?_
        refine lv_bipush (v := 60) hx hb dX7_roadTold_67 (by decide) ?_
        have : (gi (C_20 0) 7).toInt = (gi (C_12 0) 7).toInt := congrArg (fun z => (vi z).toInt) (f_22.2 7 (by decide))
        have : (gi (C_20 0) 13).toInt = (gi (C_12 0) 13).toInt := congrArg (fun z => (vi z).toInt) (f_22.2 13 (by decide))
        have : 0 ≤ (gi (C_20 0) 21).toInt ∧ (gi (C_20 0) 21).toInt ≤ 250 := fM_0_21 t_23
        have : 0 ≤ (gi (C_20 0) 7).toInt ∧ (gi (C_20 0) 7).toInt ≤ 250 := fM_0_7 t_23
        have : 0 ≤ (gi (C_20 0) 23).toInt ∧ (gi (C_20 0) 23).toInt ≤ 250 := fM_0_23 t_23
        have : 0 ≤ (gi (C_20 0) 13).toInt ∧ (gi (C_20 0) 13).toInt ≤ 5 := fM_0_13 t_23
        refine tm_V (As := [.ref (G (3 + 18)), .ref (a (24 + (gi (C 0) 9).toNatClampNeg)), .int 2, .int 1, .int 60]) (rest := []) ⟨hx, hb, hml, hown, htg⟩ (c_X7_told l D E G _ a C_20 n hn hT 18 (24 + (gi (C 0) 9).toNatClampNeg) (2 : Int32) (1 : Int32) (60 : Int32) (by decide) ⟨(lt_blk hb0 hn (by decide)), (by omega), 7, fun C h => (h.broad hb0).1, (rg_in (rg_c (v := 2) (lo := 2) (hi := 2) (by decide)) (by decide)), fun C v h h1 h2 => (h.uproad hb0 (tA_upd (h.broad hb0) (tA_stc (k := 2) (by decide) (rg_any _) (by decide))))⟩ (by omega)) (cwV 5 htg (oh_gV q_1234 q_1236 q_45 q_73 q_1237) rfl rfl rfl pdVX7_told ⟨Nat.le_of_ble_eq_true rfl, Nat.le_of_ble_eq_true rfl⟩) hK hP hD hG hS hA (va_recv hK hP (ci := 7) (q0 := 0) rfl (oh_wg (Nat.lt_of_lt_of_le (by decide) hn) (sM_0 hT))) rfl hl.1 rfl (Nat.le_of_ble_eq_true rfl) dX7_roadTold_69 ⟨Nat.le_of_ble_eq_true rfl, Nat.le_of_ble_eq_true rfl⟩ (fun r_26 C_27 H locs hq_28 hP hD hS => ?_)
        obtain ⟨hT, f_29, hq_28⟩ := hq_28
        have hF := fr_trk hF f_29 (inR_of (p := (24, 48)) (by decide) (by show 24 ≤ _; omega) (by show _ < 48; omega)) (by decide)
        refine W.widen (k := 0) (n := 0) (Nat.le_refl _) (Nat.le_refl _) ?_
        have t_30 := hT
        refine lv_if_ne (tgt := 77) hx hb dX7_roadTold_72 (by decide) (fun (c_31 : ¬ (r_26 = 0)) => ?_) (fun (c_31 : r_26 = 0) => ?_)
        · have u_32 := hq_28.2.2.2.1 c_31
          have u_33 := hq_28.2.2.2.2 c_31
          refine lv_aload_n hx hb dX7_roadTold_77 rfl (lv_at hl 0 rfl) ?_
          refine va_ldcS hx hb hown (hG.2.2.1 ("OneHeavyLoadModel", 221, "rise", 22) (List.mem_of_getElem? (i := 19) rfl)) dX7_roadTold_78 ?_
          refine lv_aload_n hx hb dX7_roadTold_80 rfl (lv_at hl 1 rfl) ?_
          refine lv_iconst (v := 3) hx hb dX7_roadTold_81 (by decide) ?_
          refine lv_iconst (v := 0) hx hb dX7_roadTold_82 (by decide) ?_
          refine lv_bipush (v := 9) hx hb dX7_roadTold_83 (by decide) ?_
          have : (gi (C_27 0) 7).toInt = (gi (C_20 0) 7).toInt := congrArg (fun z => (vi z).toInt) (f_29.2 7 (by decide))
          have : (gi (C_27 0) 13).toInt = (gi (C_20 0) 13).toInt := congrArg (fun z => (vi z).toInt) (f_29.2 13 (by decide))
          have : 0 ≤ (gi (C_27 0) 21).toInt ∧ (gi (C_27 0) 21).toInt ≤ 250 := fM_0_21 t_30
          have : 0 ≤ (gi (C_27 0) 7).toInt ∧ (gi (C_27 0) 7).toInt ≤ 250 := fM_0_7 t_30
          have : 0 ≤ (gi (C_27 0) 23).toInt ∧ (gi (C_27 0) 23).toInt ≤ 250 := fM_0_23 t_30
          have : 0 ≤ (gi (C_27 0) 13).toInt ∧ (gi (C_27 0) 13).toInt ≤ 5 := fM_0_13 t_30
          refine tm_V (As := [.ref (G (3 + 19)), .ref (a (24 + (gi (C 0) 9).toNatClampNeg)), .int 3, .int 0, .int 9]) (rest := []) ⟨hx, hb, hml, hown, htg⟩ (c_X7_perhaps l D E G _ a C_27 n hn hT 19 (24 + (gi (C 0) 9).toNatClampNeg) (3 : Int32) (0 : Int32) (9 : Int32) (by decide) ⟨(lt_blk hb0 hn (by decide)), (by omega), 7, fun C h => (h.broad hb0).1, (rg_in (rg_c (v := 3) (lo := 3) (hi := 3) (by decide)) (by decide)), fun C v h h1 h2 => (h.uproad hb0 (tA_upd (h.broad hb0) (tA_stc (k := 3) (by decide) (rg_any _) (by decide))))⟩ (by omega)) (cwV 5 htg (oh_gV q_1239 q_1241 q_46 q_73 q_1242) rfl rfl rfl pdVX7_perhaps ⟨Nat.le_of_ble_eq_true rfl, Nat.le_of_ble_eq_true rfl⟩) hK hP hD hG hS hA (va_recv hK hP (ci := 7) (q0 := 0) rfl (oh_wg (Nat.lt_of_lt_of_le (by decide) hn) (sM_0 hT))) rfl hl.1 rfl (Nat.le_of_ble_eq_true rfl) dX7_roadTold_85 ⟨Nat.le_of_ble_eq_true rfl, Nat.le_of_ble_eq_true rfl⟩ (fun r_34 C_35 H locs hq_36 hP hD hS => ?_)
          obtain ⟨hT, f_37, hq_36⟩ := hq_36
          have hF := fr_trk hF f_37 (inR_of (p := (24, 48)) (by decide) (by show 24 ≤ _; omega) (by show _ < 48; omega)) (by decide)
          refine W.widen (k := 0) (n := 0) (Nat.le_refl _) (Nat.le_refl _) ?_
          have t_38 := hT
          refine lv_if_eq (tgt := 119) hx hb dX7_roadTold_88 (by decide) (fun (c_39 : r_34 = 0) => ?_) (fun (c_39 : ¬ (r_34 = 0)) => ?_)
          · refine lv_iconst (v := 0) hx hb dX7_roadTold_119 (by decide) ?_
            have : (gi (C_35 0) 7).toInt = (gi (C_27 0) 7).toInt := congrArg (fun z => (vi z).toInt) (f_37.2 7 (by decide))
            have : (gi (C_35 0) 13).toInt = (gi (C_27 0) 13).toInt := congrArg (fun z => (vi z).toInt) (f_37.2 13 (by decide))
            have : 0 ≤ (gi (C_35 0) 21).toInt ∧ (gi (C_35 0) 21).toInt ≤ 250 := fM_0_21 t_38
            have : 0 ≤ (gi (C_35 0) 7).toInt ∧ (gi (C_35 0) 7).toInt ≤ 250 := fM_0_7 t_38
            have : 0 ≤ (gi (C_35 0) 23).toInt ∧ (gi (C_35 0) 23).toInt ≤ 250 := fM_0_23 t_38
            have : 0 ≤ (gi (C_35 0) 13).toInt ∧ (gi (C_35 0) 13).toInt ≤ 5 := fM_0_13 t_38
            rw [hQ]
            exact W.zret (v := 0) (ty := .boolean) hx hb hr (by decide) (fun t ht hW => ⟨⟨0, C_35, rfl, ⟨hT, hF, ⟨(Or.inl rfl), ⟨(by omega), hq_36.2.1.2⟩⟩⟩, ⟨by rw [ht]; exact hP, hD⟩⟩, hS.F ht⟩) hS.2.2 dX7_roadTold_120
          · refine lv_aload_n hx hb dX7_roadTold_91 rfl (lv_at hl 0 rfl) ?_
            refine va_ldcS hx hb hown (hG.2.2.1 ("OneHeavyLoadModel", 226, "turn", 23) (List.mem_of_getElem? (i := 20) rfl)) dX7_roadTold_92 ?_
            refine lv_aload_n hx hb dX7_roadTold_94 rfl (lv_at hl 1 rfl) ?_
            refine lv_iconst (v := 4) hx hb dX7_roadTold_95 (by decide) ?_
            refine lv_iconst (v := 1) hx hb dX7_roadTold_96 (by decide) ?_
            refine lv_bipush (v := 99) hx hb dX7_roadTold_97 (by decide) ?_
            have : (gi (C_35 0) 7).toInt = (gi (C_27 0) 7).toInt := congrArg (fun z => (vi z).toInt) (f_37.2 7 (by decide))
            have : (gi (C_35 0) 13).toInt = (gi (C_27 0) 13).toInt := congrArg (fun z => (vi z).toInt) (f_37.2 13 (by decide))
            have : 0 ≤ (gi (C_35 0) 21).toInt ∧ (gi (C_35 0) 21).toInt ≤ 250 := fM_0_21 t_38
            have : 0 ≤ (gi (C_35 0) 7).toInt ∧ (gi (C_35 0) 7).toInt ≤ 250 := fM_0_7 t_38
            have : 0 ≤ (gi (C_35 0) 23).toInt ∧ (gi (C_35 0) 23).toInt ≤ 250 := fM_0_23 t_38
            have : 0 ≤ (gi (C_35 0) 13).toInt ∧ (gi (C_35 0) 13).toInt ≤ 5 := fM_0_13 t_38
            refine tm_V (As := [.ref (G (3 + 20)), .ref (a (24 + (gi (C 0) 9).toNatClampNeg)), .int 4, .int 1, .int 99]) (rest := []) ⟨hx, hb, hml, hown, htg⟩ (c_X7_perhaps l D E G _ a C_35 n hn hT 20 (24 + (gi (C 0) 9).toNatClampNeg) (4 : Int32) (1 : Int32) (99 : Int32) (by decide) ⟨(lt_blk hb0 hn (by decide)), (by omega), 7, fun C h => (h.broad hb0).1, (rg_in (rg_c (v := 4) (lo := 4) (hi := 4) (by decide)) (by decide)), fun C v h h1 h2 => (h.uproad hb0 (tA_upd (h.broad hb0) (tA_stc (k := 4) (by decide) (rg_any _) (by decide))))⟩ (by omega)) (cwV 5 htg (oh_gV q_1239 q_1241 q_46 q_73 q_1242) rfl rfl rfl pdVX7_perhaps ⟨Nat.le_of_ble_eq_true rfl, Nat.le_of_ble_eq_true rfl⟩) hK hP hD hG hS hA (va_recv hK hP (ci := 7) (q0 := 0) rfl (oh_wg (Nat.lt_of_lt_of_le (by decide) hn) (sM_0 hT))) rfl hl.1 rfl (Nat.le_of_ble_eq_true rfl) dX7_roadTold_99 ⟨Nat.le_of_ble_eq_true rfl, Nat.le_of_ble_eq_true rfl⟩ (fun r_40 C_41 H locs hq_42 hP hD hS => ?_)
            obtain ⟨hT, f_43, hq_42⟩ := hq_42
            have hF := fr_trk hF f_43 (inR_of (p := (24, 48)) (by decide) (by show 24 ≤ _; omega) (by show _ < 48; omega)) (by decide)
            refine W.widen (k := 0) (n := 0) (Nat.le_refl _) (Nat.le_refl _) ?_
            have t_44 := hT
            refine lv_if_eq (tgt := 119) hx hb dX7_roadTold_102 (by decide) (fun (c_45 : r_40 = 0) => ?_) (fun (c_45 : ¬ (r_40 = 0)) => ?_)
            · refine lv_iconst (v := 0) hx hb dX7_roadTold_119 (by decide) ?_
              have : (gi (C_41 0) 7).toInt = (gi (C_35 0) 7).toInt := congrArg (fun z => (vi z).toInt) (f_43.2 7 (by decide))
              have : (gi (C_41 0) 13).toInt = (gi (C_35 0) 13).toInt := congrArg (fun z => (vi z).toInt) (f_43.2 13 (by decide))
              have : 0 ≤ (gi (C_41 0) 21).toInt ∧ (gi (C_41 0) 21).toInt ≤ 250 := fM_0_21 t_44
              have : 0 ≤ (gi (C_41 0) 7).toInt ∧ (gi (C_41 0) 7).toInt ≤ 250 := fM_0_7 t_44
              have : 0 ≤ (gi (C_41 0) 23).toInt ∧ (gi (C_41 0) 23).toInt ≤ 250 := fM_0_23 t_44
              have : 0 ≤ (gi (C_41 0) 13).toInt ∧ (gi (C_41 0) 13).toInt ≤ 5 := fM_0_13 t_44
              rw [hQ]
              exact W.zret (v := 0) (ty := .boolean) hx hb hr (by decide) (fun t ht hW => ⟨⟨0, C_41, rfl, ⟨hT, hF, ⟨(Or.inl rfl), ⟨(by omega), hq_42.2.1.2⟩⟩⟩, ⟨by rw [ht]; exact hP, hD⟩⟩, hS.F ht⟩) hS.2.2 dX7_roadTold_120
            · refine lv_aload_n hx hb dX7_roadTold_105 rfl (lv_at hl 0 rfl) ?_
              refine va_ldcS hx hb hown (hG.2.2.1 ("OneHeavyLoadModel", 228, "parish", 24) (List.mem_of_getElem? (i := 21) rfl)) dX7_roadTold_106 ?_
              refine lv_aload_n hx hb dX7_roadTold_108 rfl (lv_at hl 1 rfl) ?_
              refine lv_iconst (v := 5) hx hb dX7_roadTold_109 (by decide) ?_
              refine lv_iconst (v := 0) hx hb dX7_roadTold_110 (by decide) ?_
              refine lv_bipush (v := 15) hx hb dX7_roadTold_111 (by decide) ?_
              have : (gi (C_41 0) 7).toInt = (gi (C_35 0) 7).toInt := congrArg (fun z => (vi z).toInt) (f_43.2 7 (by decide))
              have : (gi (C_41 0) 13).toInt = (gi (C_35 0) 13).toInt := congrArg (fun z => (vi z).toInt) (f_43.2 13 (by decide))
              have : 0 ≤ (gi (C_41 0) 21).toInt ∧ (gi (C_41 0) 21).toInt ≤ 250 := fM_0_21 t_44
              have : 0 ≤ (gi (C_41 0) 7).toInt ∧ (gi (C_41 0) 7).toInt ≤ 250 := fM_0_7 t_44
              have : 0 ≤ (gi (C_41 0) 23).toInt ∧ (gi (C_41 0) 23).toInt ≤ 250 := fM_0_23 t_44
              have : 0 ≤ (gi (C_41 0) 13).toInt ∧ (gi (C_41 0) 13).toInt ≤ 5 := fM_0_13 t_44
              refine tm_V (As := [.ref (G (3 + 21)), .ref (a (24 + (gi (C 0) 9).toNatClampNeg)), .int 5, .int 0, .int 15]) (rest := []) ⟨hx, hb, hml, hown, htg⟩ (c_X7_perhaps l D E G _ a C_41 n hn hT 21 (24 + (gi (C 0) 9).toNatClampNeg) (5 : Int32) (0 : Int32) (15 : Int32) (by decide) ⟨(lt_blk hb0 hn (by decide)), (by omega), 7, fun C h => (h.broad hb0).1, (rg_in (rg_c (v := 5) (lo := 5) (hi := 5) (by decide)) (by decide)), fun C v h h1 h2 => (h.uproad hb0 (tA_upd (h.broad hb0) (tA_stc (k := 5) (by decide) (rg_any _) (by decide))))⟩ (by omega)) (cwV 5 htg (oh_gV q_1239 q_1241 q_46 q_73 q_1242) rfl rfl rfl pdVX7_perhaps ⟨Nat.le_of_ble_eq_true rfl, Nat.le_of_ble_eq_true rfl⟩) hK hP hD hG hS hA (va_recv hK hP (ci := 7) (q0 := 0) rfl (oh_wg (Nat.lt_of_lt_of_le (by decide) hn) (sM_0 hT))) rfl hl.1 rfl (Nat.le_of_ble_eq_true rfl) dX7_roadTold_113 ⟨Nat.le_of_ble_eq_true rfl, Nat.le_of_ble_eq_true rfl⟩ (fun r_46 C_47 H locs hq_48 hP hD hS => ?_)
              obtain ⟨hT, f_49, hq_48⟩ := hq_48
              have hF := fr_trk hF f_49 (inR_of (p := (24, 48)) (by decide) (by show 24 ≤ _; omega) (by show _ < 48; omega)) (by decide)
              refine W.widen (k := 0) (n := 0) (Nat.le_refl _) (Nat.le_refl _) ?_
              have t_50 := hT
              refine lv_if_ne (tgt := 121) hx hb dX7_roadTold_116 (by decide) (fun (c_51 : ¬ (r_46 = 0)) => ?_) (fun (c_51 : r_46 = 0) => ?_)
              · refine lv_aload_n hx hb dX7_roadTold_121 rfl (lv_at hl 0 rfl) ?_
                refine lv_dup hx hb dX7_roadTold_122 rfl ?_
                refine va_get (D := D) (ci := 7) (v := .int (gi (C 0) 9)) (C := RX7) (T := TX7) (N := 29) hx hb htg ig_7 hown hK hP 0 (oh_wg (Nat.lt_of_lt_of_le (by decide) hn) (sM_0 hT)) rfl 9 (by decide) (htg _ q_982) (fun _ h9 => h9) (oh_fv (c := C_47 0) (j := 9) rfl (Eq.trans (congrArg vi (f_49.2 9 (by decide))) (Eq.trans (congrArg vi (f_43.2 9 (by decide))) (Eq.trans (congrArg vi (f_37.2 9 (by decide))) (Eq.trans (congrArg vi (f_29.2 9 (by decide))) (Eq.trans (congrArg vi (f_22.2 9 (by decide))) (Eq.trans (congrArg vi (f_14.2 9 (by decide))) (Eq.trans (congrArg vi (f_9.2 9 (by decide))) (congrArg vi (f_4.2 9 (by decide))))))))))) dX7_roadTold_123 ?_
                refine lv_iconst (v := 1) hx hb dX7_roadTold_126 (by decide) ?_
                refine lv_iadd hx hb dX7_roadTold_127 ?_
                refine th_put (Tp := TyM a E) (Rl := fr [(24, 48)] [9, 21, 22, 23, 24, 25] C) (ci := 7) (v := .int ((gi (C 0) 9) + 1)) (ty := .int) (CC := RX7) (T := TX7) (N := 29) hx hb htg ig_7 tyX7 tyX7_ok nmX7 hown hK hP hD hS 0 (Nat.lt_of_lt_of_le (by decide) hn) (sM_0 hT) rfl 9 (by decide) (htg _ q_982) (fun _ h9 => h9) rfl (by decide +kernel) rfl rfl (Nat.le_of_ble_eq_true rfl) (hT.up 0 (by decide) ⟨rfl, (fM_0_7 hT), (rg_w (rg_add (lo := 1) (hi := 24) h9 (rg_c (v := 1) (lo := 1) (hi := 1) (by decide)) (by decide)) (by decide)), (fM_0_11 hT), (fM_0_13 hT), (fM_0_15 hT), (fM_0_21 hT), (fM_0_23 hT)⟩) (fr_fd hF (sM_0 hT) (by decide)) dX7_roadTold_128 (fun C_52 H locs e_53 hT hF hP hD hS => ?_)
                have t_54 := hT
                refine lv_iconst (v := 1) hx hb dX7_roadTold_131 (by decide) ?_
                have : (gi (C_47 0) 7).toInt = (gi (C_41 0) 7).toInt := congrArg (fun z => (vi z).toInt) (f_49.2 7 (by decide))
                have : (gi (C_47 0) 13).toInt = (gi (C_41 0) 13).toInt := congrArg (fun z => (vi z).toInt) (f_49.2 13 (by decide))
                have : (gi (C_52 0) 21).toInt = (gi (C_47 0) 21).toInt := congrArg Int32.toInt (show gi (C_52 0) 21 = gi (C_47 0) 21 by rw [e_53]; rfl)
                have : (gi (C_52 0) 7).toInt = (gi (C_47 0) 7).toInt := congrArg Int32.toInt (show gi (C_52 0) 7 = gi (C_47 0) 7 by rw [e_53]; rfl)
                have : (gi (C_52 0) 23).toInt = (gi (C_47 0) 23).toInt := congrArg Int32.toInt (show gi (C_52 0) 23 = gi (C_47 0) 23 by rw [e_53]; rfl)
                have : (gi (C_52 0) 13).toInt = (gi (C_47 0) 13).toInt := congrArg Int32.toInt (show gi (C_52 0) 13 = gi (C_47 0) 13 by rw [e_53]; rfl)
                have : 0 ≤ (gi (C_47 0) 21).toInt ∧ (gi (C_47 0) 21).toInt ≤ 250 := fM_0_21 t_50
                have : 0 ≤ (gi (C_47 0) 7).toInt ∧ (gi (C_47 0) 7).toInt ≤ 250 := fM_0_7 t_50
                have : 0 ≤ (gi (C_47 0) 23).toInt ∧ (gi (C_47 0) 23).toInt ≤ 250 := fM_0_23 t_50
                have : 0 ≤ (gi (C_47 0) 13).toInt ∧ (gi (C_47 0) 13).toInt ≤ 5 := fM_0_13 t_50
                have : 0 ≤ (gi (C_52 0) 21).toInt ∧ (gi (C_52 0) 21).toInt ≤ 250 := fM_0_21 t_54
                have : 0 ≤ (gi (C_52 0) 7).toInt ∧ (gi (C_52 0) 7).toInt ≤ 250 := fM_0_7 t_54
                have : 0 ≤ (gi (C_52 0) 23).toInt ∧ (gi (C_52 0) 23).toInt ≤ 250 := fM_0_23 t_54
                have : 0 ≤ (gi (C_52 0) 13).toInt ∧ (gi (C_52 0) 13).toInt ≤ 5 := fM_0_13 t_54
                rw [hQ]
                exact W.zret (v := 1) (ty := .boolean) hx hb hr (by decide) (fun t ht hW => ⟨⟨1, C_52, rfl, ⟨hT, hF, ⟨(Or.inr rfl), ⟨(by omega), (by omega)⟩⟩⟩, ⟨by rw [ht]; exact hP, hD⟩⟩, hS.F ht⟩) hS.2.2 dX7_roadTold_132
              · refine lv_iconst (v := 0) hx hb dX7_roadTold_119 (by decide) ?_
                have : (gi (C_47 0) 7).toInt = (gi (C_41 0) 7).toInt := congrArg (fun z => (vi z).toInt) (f_49.2 7 (by decide))
                have : (gi (C_47 0) 13).toInt = (gi (C_41 0) 13).toInt := congrArg (fun z => (vi z).toInt) (f_49.2 13 (by decide))
                have : 0 ≤ (gi (C_47 0) 21).toInt ∧ (gi (C_47 0) 21).toInt ≤ 250 := fM_0_21 t_50
                have : 0 ≤ (gi (C_47 0) 7).toInt ∧ (gi (C_47 0) 7).toInt ≤ 250 := fM_0_7 t_50
                have : 0 ≤ (gi (C_47 0) 23).toInt ∧ (gi (C_47 0) 23).toInt ≤ 250 := fM_0_23 t_50
                have : 0 ≤ (gi (C_47 0) 13).toInt ∧ (gi (C_47 0) 13).toInt ≤ 5 := fM_0_13 t_50
                rw [hQ]
                exact W.zret (v := 0) (ty := .boolean) hx hb hr (by decide) (fun t ht hW => ⟨⟨0, C_47, rfl, ⟨hT, hF, ⟨(Or.inl rfl), ⟨(by omega), hq_48.2.1.2⟩⟩⟩, ⟨by rw [ht]; exact hP, hD⟩⟩, hS.F ht⟩) hS.2.2 dX7_roadTold_120
        · refine lv_iconst (v := 0) hx hb dX7_roadTold_75 (by decide) ?_
          have : (gi (C_27 0) 7).toInt = (gi (C_20 0) 7).toInt := congrArg (fun z => (vi z).toInt) (f_29.2 7 (by decide))
          have : (gi (C_27 0) 13).toInt = (gi (C_20 0) 13).toInt := congrArg (fun z => (vi z).toInt) (f_29.2 13 (by decide))
          have : 0 ≤ (gi (C_27 0) 21).toInt ∧ (gi (C_27 0) 21).toInt ≤ 250 := fM_0_21 t_30
          have : 0 ≤ (gi (C_27 0) 7).toInt ∧ (gi (C_27 0) 7).toInt ≤ 250 := fM_0_7 t_30
          have : 0 ≤ (gi (C_27 0) 23).toInt ∧ (gi (C_27 0) 23).toInt ≤ 250 := fM_0_23 t_30
          have : 0 ≤ (gi (C_27 0) 13).toInt ∧ (gi (C_27 0) 13).toInt ≤ 5 := fM_0_13 t_30
          rw [hQ]
          exact W.zret (v := 0) (ty := .boolean) hx hb hr (by decide) (fun t ht hW => ⟨⟨0, C_27, rfl, ⟨hT, hF, ⟨(Or.inl rfl), ⟨(by omega), hq_28.2.1.2⟩⟩⟩, ⟨by rw [ht]; exact hP, hD⟩⟩, hS.F ht⟩) hS.2.2 dX7_roadTold_76
    · refine lv_aload_n hx hb dX7_roadTold_32 rfl (lv_at hl 0 rfl) ?_
      refine va_get (D := D) (ci := 7) (v := .long (gl (C_12 0) 24)) (C := RX7) (T := TX7) (N := 29) hx hb htg ig_7 hown hK hP 0 (oh_wg (Nat.lt_of_lt_of_le (by decide) hn) (sM_0 hT)) rfl 24 (by decide) (htg _ q_997) (fun _ h9 => h9) rfl dX7_roadTold_33 ?_
      refine lv_aload_n hx hb dX7_roadTold_36 rfl (lv_at hl 1 rfl) ?_
      refine lv_iconst (v := 0) hx hb dX7_roadTold_37 (by decide) ?_
      refine th_iald hx hb hK hP (24 + (gi (C 0) 9).toNatClampNeg) (lt_blk hb0 hn (by decide)) (hT.broad hb0).1 (rg_in (rg_c (v := 0) (lo := 0) (hi := 0) (by decide)) (by decide)) dX7_roadTold_38 ?_
      refine lv_i2l (v := Int32.toInt64 (ga (C_12 (24 + (gi (C 0) 9).toNatClampNeg)) ((0 : Int32)).toNatClampNeg)) hx hb dX7_roadTold_39 (by rfl) ?_
      refine W.lcmp hx hb dX7_roadTold_40 ?_
      refine lv_if_ne (tgt := 49) hx hb dX7_roadTold_41 (by decide) (fun (c_55 : ¬ ((lg_cmp (gl (C_12 0) 24) (Int32.toInt64 (ga (C_12 (24 + (gi (C 0) 9).toNatClampNeg)) ((0 : Int32)).toNatClampNeg))) = 0)) => ?_) (fun (c_55 : (lg_cmp (gl (C_12 0) 24) (Int32.toInt64 (ga (C_12 (24 + (gi (C 0) 9).toNatClampNeg)) ((0 : Int32)).toNatClampNeg))) = 0) => ?_)
      · refine lv_aload_n hx hb dX7_roadTold_49 rfl (lv_at hl 0 rfl) ?_
        refine lv_aload_n hx hb dX7_roadTold_50 rfl (lv_at hl 1 rfl) ?_
        refine lv_iconst (v := 1) hx hb dX7_roadTold_51 (by decide) ?_
        refine lv_iconst (v := 0) hx hb dX7_roadTold_52 (by decide) ?_
        refine lv_bipush (v := 15) hx hb dX7_roadTold_53 (by decide) ?_
        have : (gi (C_12 0) 7).toInt = (gi (C_7 0) 7).toInt := congrArg (fun z => (vi z).toInt) (f_14.2 7 (by decide))
        have : (gi (C_12 0) 13).toInt = (gi (C_7 0) 13).toInt := congrArg (fun z => (vi z).toInt) (f_14.2 13 (by decide))
        have : 0 ≤ (gi (C_12 0) 21).toInt ∧ (gi (C_12 0) 21).toInt ≤ 250 := fM_0_21 t_15
        have : 0 ≤ (gi (C_12 0) 7).toInt ∧ (gi (C_12 0) 7).toInt ≤ 250 := fM_0_7 t_15
        have : 0 ≤ (gi (C_12 0) 23).toInt ∧ (gi (C_12 0) 23).toInt ≤ 250 := fM_0_23 t_15
        have : 0 ≤ (gi (C_12 0) 13).toInt ∧ (gi (C_12 0) 13).toInt ≤ 5 := fM_0_13 t_15
        have : (2 : Int32).toInt = 2 := rfl
        refine tm_V (As := [.ref (a (24 + (gi (C 0) 9).toNatClampNeg)), .int 1, .int 0, .int 15]) (rest := []) ⟨hx, hb, hml, hown, htg⟩ (c_X7_number l D E G _ a C_12 n hn hT (24 + (gi (C 0) 9).toNatClampNeg) (1 : Int32) (0 : Int32) (15 : Int32) ⟨(lt_blk hb0 hn (by decide)), (by omega), 7, fun C h => (h.broad hb0).1, (rg_in (rg_c (v := 1) (lo := 1) (hi := 1) (by decide)) (by decide)), fun C v h h1 h2 => (h.uproad hb0 (tA_upd (h.broad hb0) (tA_stc (k := 1) (by decide) (oh_rgle (lo := 0) (hi := 15) h1 h2 (by decide)) (by decide))))⟩ (by omega)) (cwV 4 htg (oh_gV q_1225 q_1227 q_43 q_73 q_1228) rfl rfl rfl pdVX7_number ⟨Nat.le_of_ble_eq_true rfl, Nat.le_of_ble_eq_true rfl⟩) hK hP hD hG hS hA (va_recv hK hP (ci := 7) (q0 := 0) rfl (oh_wg (Nat.lt_of_lt_of_le (by decide) hn) (sM_0 hT))) rfl hl.1 rfl (Nat.le_of_ble_eq_true rfl) dX7_roadTold_55 ⟨Nat.le_of_ble_eq_true rfl, Nat.le_of_ble_eq_true rfl⟩ (fun r_56 C_57 H locs hq_58 hP hD hS => ?_)
        obtain ⟨hT, f_59, hq_58⟩ := hq_58
        have hF := fr_trk hF f_59 (inR_of (p := (24, 48)) (by decide) (by show 24 ≤ _; omega) (by show _ < 48; omega)) (by decide)
        refine W.widen (k := 0) (n := 0) (Nat.le_refl _) (Nat.le_refl _) ?_
        have t_60 := hT
        refine lv_if_eq (tgt := 75) hx hb dX7_roadTold_58 (by decide) (fun (c_61 : r_56 = 0) => ?_) (fun (c_61 : ¬ (r_56 = 0)) => ?_)
        · refine lv_iconst (v := 0) hx hb dX7_roadTold_75 (by decide) ?_
          have : (gi (C_57 0) 7).toInt = (gi (C_12 0) 7).toInt := congrArg (fun z => (vi z).toInt) (f_59.2 7 (by decide))
          have : (gi (C_57 0) 13).toInt = (gi (C_12 0) 13).toInt := congrArg (fun z => (vi z).toInt) (f_59.2 13 (by decide))
          have : 0 ≤ (gi (C_57 0) 21).toInt ∧ (gi (C_57 0) 21).toInt ≤ 250 := fM_0_21 t_60
          have : 0 ≤ (gi (C_57 0) 7).toInt ∧ (gi (C_57 0) 7).toInt ≤ 250 := fM_0_7 t_60
          have : 0 ≤ (gi (C_57 0) 23).toInt ∧ (gi (C_57 0) 23).toInt ≤ 250 := fM_0_23 t_60
          have : 0 ≤ (gi (C_57 0) 13).toInt ∧ (gi (C_57 0) 13).toInt ≤ 5 := fM_0_13 t_60
          rw [hQ]
          exact W.zret (v := 0) (ty := .boolean) hx hb hr (by decide) (fun t ht hW => ⟨⟨0, C_57, rfl, ⟨hT, hF, ⟨(Or.inl rfl), ⟨(by omega), hq_58.2.1.2⟩⟩⟩, ⟨by rw [ht]; exact hP, hD⟩⟩, hS.F ht⟩) hS.2.2 dX7_roadTold_76
        · have u_62 := hq_58.2.2.2 c_61
          refine lv_aload_n hx hb dX7_roadTold_61 rfl (lv_at hl 0 rfl) ?_
          refine va_ldcS hx hb hown (hG.2.2.1 ("OneHeavyLoadModel", 219, "miles", 21) (List.mem_of_getElem? (i := 18) rfl)) dX7_roadTold_62 ?_
          refine lv_aload_n hx hb dX7_roadTold_64 rfl (lv_at hl 1 rfl) ?_
          refine lv_iconst (v := 2) hx hb dX7_roadTold_65 (by decide) ?_
          refine lv_iconst (v := 1) hx hb dX7_roadTold_66 (by decide) ?_
          refine lv_bipush (v := 60) hx hb dX7_roadTold_67 (by decide) ?_
          have : (gi (C_57 0) 7).toInt = (gi (C_12 0) 7).toInt := congrArg (fun z => (vi z).toInt) (f_59.2 7 (by decide))
          have : (gi (C_57 0) 13).toInt = (gi (C_12 0) 13).toInt := congrArg (fun z => (vi z).toInt) (f_59.2 13 (by decide))
          have : 0 ≤ (gi (C_57 0) 21).toInt ∧ (gi (C_57 0) 21).toInt ≤ 250 := fM_0_21 t_60
          have : 0 ≤ (gi (C_57 0) 7).toInt ∧ (gi (C_57 0) 7).toInt ≤ 250 := fM_0_7 t_60
          have : 0 ≤ (gi (C_57 0) 23).toInt ∧ (gi (C_57 0) 23).toInt ≤ 250 := fM_0_23 t_60
          have : 0 ≤ (gi (C_57 0) 13).toInt ∧ (gi (C_57 0) 13).toInt ≤ 5 := fM_0_13 t_60
          refine tm_V (As := [.ref (G (3 + 18)), .ref (a (24 + (gi (C 0) 9).toNatClampNeg)), .int 2, .int 1, .int 60]) (rest := []) ⟨hx, hb, hml, hown, htg⟩ (c_X7_told l D E G _ a C_57 n hn hT 18 (24 + (gi (C 0) 9).toNatClampNeg) (2 : Int32) (1 : Int32) (60 : Int32) (by decide) ⟨(lt_blk hb0 hn (by decide)), (by omega), 7, fun C h => (h.broad hb0).1, (rg_in (rg_c (v := 2) (lo := 2) (hi := 2) (by decide)) (by decide)), fun C v h h1 h2 => (h.uproad hb0 (tA_upd (h.broad hb0) (tA_stc (k := 2) (by decide) (rg_any _) (by decide))))⟩ (by omega)) (cwV 5 htg (oh_gV q_1234 q_1236 q_45 q_73 q_1237) rfl rfl rfl pdVX7_told ⟨Nat.le_of_ble_eq_true rfl, Nat.le_of_ble_eq_true rfl⟩) hK hP hD hG hS hA (va_recv hK hP (ci := 7) (q0 := 0) rfl (oh_wg (Nat.lt_of_lt_of_le (by decide) hn) (sM_0 hT))) rfl hl.1 rfl (Nat.le_of_ble_eq_true rfl) dX7_roadTold_69 ⟨Nat.le_of_ble_eq_true rfl, Nat.le_of_ble_eq_true rfl⟩ (fun r_63 C_64 H locs hq_65 hP hD hS => ?_)
          obtain ⟨hT, f_66, hq_65⟩ := hq_65
          have hF := fr_trk hF f_66 (inR_of (p := (24, 48)) (by decide) (by show 24 ≤ _; omega) (by show _ < 48; omega)) (by decide)
          refine W.widen (k := 0) (n := 0) (Nat.le_refl _) (Nat.le_refl _) ?_
          have t_67 := hT
          refine lv_if_ne (tgt := 77) hx hb dX7_roadTold_72 (by decide) (fun (c_68 : ¬ (r_63 = 0)) => ?_) (fun (c_68 : r_63 = 0) => ?_)
          · have u_69 := hq_65.2.2.2.1 c_68
            have u_70 := hq_65.2.2.2.2 c_68
            refine lv_aload_n hx hb dX7_roadTold_77 rfl (lv_at hl 0 rfl) ?_
            refine va_ldcS hx hb hown (hG.2.2.1 ("OneHeavyLoadModel", 221, "rise", 22) (List.mem_of_getElem? (i := 19) rfl)) dX7_roadTold_78 ?_
            refine lv_aload_n hx hb dX7_roadTold_80 rfl (lv_at hl 1 rfl) ?_
            refine lv_iconst (v := 3) hx hb dX7_roadTold_81 (by decide) ?_
            refine lv_iconst (v := 0) hx hb dX7_roadTold_82 (by decide) ?_
            refine lv_bipush (v := 9) hx hb dX7_roadTold_83 (by decide) ?_
            have : (gi (C_64 0) 7).toInt = (gi (C_57 0) 7).toInt := congrArg (fun z => (vi z).toInt) (f_66.2 7 (by decide))
            have : (gi (C_64 0) 13).toInt = (gi (C_57 0) 13).toInt := congrArg (fun z => (vi z).toInt) (f_66.2 13 (by decide))
            have : 0 ≤ (gi (C_64 0) 21).toInt ∧ (gi (C_64 0) 21).toInt ≤ 250 := fM_0_21 t_67
            have : 0 ≤ (gi (C_64 0) 7).toInt ∧ (gi (C_64 0) 7).toInt ≤ 250 := fM_0_7 t_67
            have : 0 ≤ (gi (C_64 0) 23).toInt ∧ (gi (C_64 0) 23).toInt ≤ 250 := fM_0_23 t_67
            have : 0 ≤ (gi (C_64 0) 13).toInt ∧ (gi (C_64 0) 13).toInt ≤ 5 := fM_0_13 t_67
            refine tm_V (As := [.ref (G (3 + 19)), .ref (a (24 + (gi (C 0) 9).toNatClampNeg)), .int 3, .int 0, .int 9]) (rest := []) ⟨hx, hb, hml, hown, htg⟩ (c_X7_perhaps l D E G _ a C_64 n hn hT 19 (24 + (gi (C 0) 9).toNatClampNeg) (3 : Int32) (0 : Int32) (9 : Int32) (by decide) ⟨(lt_blk hb0 hn (by decide)), (by omega), 7, fun C h => (h.broad hb0).1, (rg_in (rg_c (v := 3) (lo := 3) (hi := 3) (by decide)) (by decide)), fun C v h h1 h2 => (h.uproad hb0 (tA_upd (h.broad hb0) (tA_stc (k := 3) (by decide) (rg_any _) (by decide))))⟩ (by omega)) (cwV 5 htg (oh_gV q_1239 q_1241 q_46 q_73 q_1242) rfl rfl rfl pdVX7_perhaps ⟨Nat.le_of_ble_eq_true rfl, Nat.le_of_ble_eq_true rfl⟩) hK hP hD hG hS hA (va_recv hK hP (ci := 7) (q0 := 0) rfl (oh_wg (Nat.lt_of_lt_of_le (by decide) hn) (sM_0 hT))) rfl hl.1 rfl (Nat.le_of_ble_eq_true rfl) dX7_roadTold_85 ⟨Nat.le_of_ble_eq_true rfl, Nat.le_of_ble_eq_true rfl⟩ (fun r_71 C_72 H locs hq_73 hP hD hS => ?_)
            obtain ⟨hT, f_74, hq_73⟩ := hq_73
            have hF := fr_trk hF f_74 (inR_of (p := (24, 48)) (by decide) (by show 24 ≤ _; omega) (by show _ < 48; omega)) (by decide)
            refine W.widen (k := 0) (n := 0) (Nat.le_refl _) (Nat.le_refl _) ?_
            have t_75 := hT
            refine lv_if_eq (tgt := 119) hx hb dX7_roadTold_88 (by decide) (fun (c_76 : r_71 = 0) => ?_) (fun (c_76 : ¬ (r_71 = 0)) => ?_)
            · refine lv_iconst (v := 0) hx hb dX7_roadTold_119 (by decide) ?_
              have : (gi (C_72 0) 7).toInt = (gi (C_64 0) 7).toInt := congrArg (fun z => (vi z).toInt) (f_74.2 7 (by decide))
              have : (gi (C_72 0) 13).toInt = (gi (C_64 0) 13).toInt := congrArg (fun z => (vi z).toInt) (f_74.2 13 (by decide))
              have : 0 ≤ (gi (C_72 0) 21).toInt ∧ (gi (C_72 0) 21).toInt ≤ 250 := fM_0_21 t_75
              have : 0 ≤ (gi (C_72 0) 7).toInt ∧ (gi (C_72 0) 7).toInt ≤ 250 := fM_0_7 t_75
              have : 0 ≤ (gi (C_72 0) 23).toInt ∧ (gi (C_72 0) 23).toInt ≤ 250 := fM_0_23 t_75
              have : 0 ≤ (gi (C_72 0) 13).toInt ∧ (gi (C_72 0) 13).toInt ≤ 5 := fM_0_13 t_75
              rw [hQ]
              exact W.zret (v := 0) (ty := .boolean) hx hb hr (by decide) (fun t ht hW => ⟨⟨0, C_72, rfl, ⟨hT, hF, ⟨(Or.inl rfl), ⟨(by omega), hq_73.2.1.2⟩⟩⟩, ⟨by rw [ht]; exact hP, hD⟩⟩, hS.F ht⟩) hS.2.2 dX7_roadTold_120
            · refine lv_aload_n hx hb dX7_roadTold_91 rfl (lv_at hl 0 rfl) ?_
              refine va_ldcS hx hb hown (hG.2.2.1 ("OneHeavyLoadModel", 226, "turn", 23) (List.mem_of_getElem? (i := 20) rfl)) dX7_roadTold_92 ?_
              refine lv_aload_n hx hb dX7_roadTold_94 rfl (lv_at hl 1 rfl) ?_
              refine lv_iconst (v := 4) hx hb dX7_roadTold_95 (by decide) ?_
              refine lv_iconst (v := 1) hx hb dX7_roadTold_96 (by decide) ?_
              refine lv_bipush (v := 99) hx hb dX7_roadTold_97 (by decide) ?_
              have : (gi (C_72 0) 7).toInt = (gi (C_64 0) 7).toInt := congrArg (fun z => (vi z).toInt) (f_74.2 7 (by decide))
              have : (gi (C_72 0) 13).toInt = (gi (C_64 0) 13).toInt := congrArg (fun z => (vi z).toInt) (f_74.2 13 (by decide))
              have : 0 ≤ (gi (C_72 0) 21).toInt ∧ (gi (C_72 0) 21).toInt ≤ 250 := fM_0_21 t_75
              have : 0 ≤ (gi (C_72 0) 7).toInt ∧ (gi (C_72 0) 7).toInt ≤ 250 := fM_0_7 t_75
              have : 0 ≤ (gi (C_72 0) 23).toInt ∧ (gi (C_72 0) 23).toInt ≤ 250 := fM_0_23 t_75
              have : 0 ≤ (gi (C_72 0) 13).toInt ∧ (gi (C_72 0) 13).toInt ≤ 5 := fM_0_13 t_75
              refine tm_V (As := [.ref (G (3 + 20)), .ref (a (24 + (gi (C 0) 9).toNatClampNeg)), .int 4, .int 1, .int 99]) (rest := []) ⟨hx, hb, hml, hown, htg⟩ (c_X7_perhaps l D E G _ a C_72 n hn hT 20 (24 + (gi (C 0) 9).toNatClampNeg) (4 : Int32) (1 : Int32) (99 : Int32) (by decide) ⟨(lt_blk hb0 hn (by decide)), (by omega), 7, fun C h => (h.broad hb0).1, (rg_in (rg_c (v := 4) (lo := 4) (hi := 4) (by decide)) (by decide)), fun C v h h1 h2 => (h.uproad hb0 (tA_upd (h.broad hb0) (tA_stc (k := 4) (by decide) (rg_any _) (by decide))))⟩ (by omega)) (cwV 5 htg (oh_gV q_1239 q_1241 q_46 q_73 q_1242) rfl rfl rfl pdVX7_perhaps ⟨Nat.le_of_ble_eq_true rfl, Nat.le_of_ble_eq_true rfl⟩) hK hP hD hG hS hA (va_recv hK hP (ci := 7) (q0 := 0) rfl (oh_wg (Nat.lt_of_lt_of_le (by decide) hn) (sM_0 hT))) rfl hl.1 rfl (Nat.le_of_ble_eq_true rfl) dX7_roadTold_99 ⟨Nat.le_of_ble_eq_true rfl, Nat.le_of_ble_eq_true rfl⟩ (fun r_77 C_78 H locs hq_79 hP hD hS => ?_)
              obtain ⟨hT, f_80, hq_79⟩ := hq_79
              have hF := fr_trk hF f_80 (inR_of (p := (24, 48)) (by decide) (by show 24 ≤ _; omega) (by show _ < 48; omega)) (by decide)
              refine W.widen (k := 0) (n := 0) (Nat.le_refl _) (Nat.le_refl _) ?_
              have t_81 := hT
              refine lv_if_eq (tgt := 119) hx hb dX7_roadTold_102 (by decide) (fun (c_82 : r_77 = 0) => ?_) (fun (c_82 : ¬ (r_77 = 0)) => ?_)
              · refine lv_iconst (v := 0) hx hb dX7_roadTold_119 (by decide) ?_
                have : (gi (C_78 0) 7).toInt = (gi (C_72 0) 7).toInt := congrArg (fun z => (vi z).toInt) (f_80.2 7 (by decide))
                have : (gi (C_78 0) 13).toInt = (gi (C_72 0) 13).toInt := congrArg (fun z => (vi z).toInt) (f_80.2 13 (by decide))
                have : 0 ≤ (gi (C_78 0) 21).toInt ∧ (gi (C_78 0) 21).toInt ≤ 250 := fM_0_21 t_81
                have : 0 ≤ (gi (C_78 0) 7).toInt ∧ (gi (C_78 0) 7).toInt ≤ 250 := fM_0_7 t_81
                have : 0 ≤ (gi (C_78 0) 23).toInt ∧ (gi (C_78 0) 23).toInt ≤ 250 := fM_0_23 t_81
                have : 0 ≤ (gi (C_78 0) 13).toInt ∧ (gi (C_78 0) 13).toInt ≤ 5 := fM_0_13 t_81
                rw [hQ]
                exact W.zret (v := 0) (ty := .boolean) hx hb hr (by decide) (fun t ht hW => ⟨⟨0, C_78, rfl, ⟨hT, hF, ⟨(Or.inl rfl), ⟨(by omega), hq_79.2.1.2⟩⟩⟩, ⟨by rw [ht]; exact hP, hD⟩⟩, hS.F ht⟩) hS.2.2 dX7_roadTold_120
              · refine lv_aload_n hx hb dX7_roadTold_105 rfl (lv_at hl 0 rfl) ?_
                refine va_ldcS hx hb hown (hG.2.2.1 ("OneHeavyLoadModel", 228, "parish", 24) (List.mem_of_getElem? (i := 21) rfl)) dX7_roadTold_106 ?_
                refine lv_aload_n hx hb dX7_roadTold_108 rfl (lv_at hl 1 rfl) ?_
                refine lv_iconst (v := 5) hx hb dX7_roadTold_109 (by decide) ?_
                refine lv_iconst (v := 0) hx hb dX7_roadTold_110 (by decide) ?_
                refine lv_bipush (v := 15) hx hb dX7_roadTold_111 (by decide) ?_
                have : (gi (C_78 0) 7).toInt = (gi (C_72 0) 7).toInt := congrArg (fun z => (vi z).toInt) (f_80.2 7 (by decide))
                have : (gi (C_78 0) 13).toInt = (gi (C_72 0) 13).toInt := congrArg (fun z => (vi z).toInt) (f_80.2 13 (by decide))
                have : 0 ≤ (gi (C_78 0) 21).toInt ∧ (gi (C_78 0) 21).toInt ≤ 250 := fM_0_21 t_81
                have : 0 ≤ (gi (C_78 0) 7).toInt ∧ (gi (C_78 0) 7).toInt ≤ 250 := fM_0_7 t_81
                have : 0 ≤ (gi (C_78 0) 23).toInt ∧ (gi (C_78 0) 23).toInt ≤ 250 := fM_0_23 t_81
                have : 0 ≤ (gi (C_78 0) 13).toInt ∧ (gi (C_78 0) 13).toInt ≤ 5 := fM_0_13 t_81
                refine tm_V (As := [.ref (G (3 + 21)), .ref (a (24 + (gi (C 0) 9).toNatClampNeg)), .int 5, .int 0, .int 15]) (rest := []) ⟨hx, hb, hml, hown, htg⟩ (c_X7_perhaps l D E G _ a C_78 n hn hT 21 (24 + (gi (C 0) 9).toNatClampNeg) (5 : Int32) (0 : Int32) (15 : Int32) (by decide) ⟨(lt_blk hb0 hn (by decide)), (by omega), 7, fun C h => (h.broad hb0).1, (rg_in (rg_c (v := 5) (lo := 5) (hi := 5) (by decide)) (by decide)), fun C v h h1 h2 => (h.uproad hb0 (tA_upd (h.broad hb0) (tA_stc (k := 5) (by decide) (rg_any _) (by decide))))⟩ (by omega)) (cwV 5 htg (oh_gV q_1239 q_1241 q_46 q_73 q_1242) rfl rfl rfl pdVX7_perhaps ⟨Nat.le_of_ble_eq_true rfl, Nat.le_of_ble_eq_true rfl⟩) hK hP hD hG hS hA (va_recv hK hP (ci := 7) (q0 := 0) rfl (oh_wg (Nat.lt_of_lt_of_le (by decide) hn) (sM_0 hT))) rfl hl.1 rfl (Nat.le_of_ble_eq_true rfl) dX7_roadTold_113 ⟨Nat.le_of_ble_eq_true rfl, Nat.le_of_ble_eq_true rfl⟩ (fun r_83 C_84 H locs hq_85 hP hD hS => ?_)
                obtain ⟨hT, f_86, hq_85⟩ := hq_85
                have hF := fr_trk hF f_86 (inR_of (p := (24, 48)) (by decide) (by show 24 ≤ _; omega) (by show _ < 48; omega)) (by decide)
                refine W.widen (k := 0) (n := 0) (Nat.le_refl _) (Nat.le_refl _) ?_
                have t_87 := hT
                refine lv_if_ne (tgt := 121) hx hb dX7_roadTold_116 (by decide) (fun (c_88 : ¬ (r_83 = 0)) => ?_) (fun (c_88 : r_83 = 0) => ?_)
                · refine lv_aload_n hx hb dX7_roadTold_121 rfl (lv_at hl 0 rfl) ?_
                  refine lv_dup hx hb dX7_roadTold_122 rfl ?_
                  refine va_get (D := D) (ci := 7) (v := .int (gi (C 0) 9)) (C := RX7) (T := TX7) (N := 29) hx hb htg ig_7 hown hK hP 0 (oh_wg (Nat.lt_of_lt_of_le (by decide) hn) (sM_0 hT)) rfl 9 (by decide) (htg _ q_982) (fun _ h9 => h9) (oh_fv (c := C_84 0) (j := 9) rfl (Eq.trans (congrArg vi (f_86.2 9 (by decide))) (Eq.trans (congrArg vi (f_80.2 9 (by decide))) (Eq.trans (congrArg vi (f_74.2 9 (by decide))) (Eq.trans (congrArg vi (f_66.2 9 (by decide))) (Eq.trans (congrArg vi (f_59.2 9 (by decide))) (Eq.trans (congrArg vi (f_14.2 9 (by decide))) (Eq.trans (congrArg vi (f_9.2 9 (by decide))) (congrArg vi (f_4.2 9 (by decide))))))))))) dX7_roadTold_123 ?_
                  refine lv_iconst (v := 1) hx hb dX7_roadTold_126 (by decide) ?_
                  refine lv_iadd hx hb dX7_roadTold_127 ?_
                  refine th_put (Tp := TyM a E) (Rl := fr [(24, 48)] [9, 21, 22, 23, 24, 25] C) (ci := 7) (v := .int ((gi (C 0) 9) + 1)) (ty := .int) (CC := RX7) (T := TX7) (N := 29) hx hb htg ig_7 tyX7 tyX7_ok nmX7 hown hK hP hD hS 0 (Nat.lt_of_lt_of_le (by decide) hn) (sM_0 hT) rfl 9 (by decide) (htg _ q_982) (fun _ h9 => h9) rfl (by decide +kernel) rfl rfl (Nat.le_of_ble_eq_true rfl) (hT.up 0 (by decide) ⟨rfl, (fM_0_7 hT), (rg_w (rg_add (lo := 1) (hi := 24) h9 (rg_c (v := 1) (lo := 1) (hi := 1) (by decide)) (by decide)) (by decide)), (fM_0_11 hT), (fM_0_13 hT), (fM_0_15 hT), (fM_0_21 hT), (fM_0_23 hT)⟩) (fr_fd hF (sM_0 hT) (by decide)) dX7_roadTold_128 (fun C_89 H locs e_90 hT hF hP hD hS => ?_)
                  have t_91 := hT
                  refine lv_iconst (v := 1) hx hb dX7_roadTold_131 (by decide) ?_
                  have : (gi (C_84 0) 7).toInt = (gi (C_78 0) 7).toInt := congrArg (fun z => (vi z).toInt) (f_86.2 7 (by decide))
                  have : (gi (C_84 0) 13).toInt = (gi (C_78 0) 13).toInt := congrArg (fun z => (vi z).toInt) (f_86.2 13 (by decide))
                  have : (gi (C_89 0) 21).toInt = (gi (C_84 0) 21).toInt := congrArg Int32.toInt (show gi (C_89 0) 21 = gi (C_84 0) 21 by rw [e_90]; rfl)
                  have : (gi (C_89 0) 7).toInt = (gi (C_84 0) 7).toInt := congrArg Int32.toInt (show gi (C_89 0) 7 = gi (C_84 0) 7 by rw [e_90]; rfl)
                  have : (gi (C_89 0) 23).toInt = (gi (C_84 0) 23).toInt := congrArg Int32.toInt (show gi (C_89 0) 23 = gi (C_84 0) 23 by rw [e_90]; rfl)
                  have : (gi (C_89 0) 13).toInt = (gi (C_84 0) 13).toInt := congrArg Int32.toInt (show gi (C_89 0) 13 = gi (C_84 0) 13 by rw [e_90]; rfl)
                  have : 0 ≤ (gi (C_84 0) 21).toInt ∧ (gi (C_84 0) 21).toInt ≤ 250 := fM_0_21 t_87
                  have : 0 ≤ (gi (C_84 0) 7).toInt ∧ (gi (C_84 0) 7).toInt ≤ 250 := fM_0_7 t_87
                  have : 0 ≤ (gi (C_84 0) 23).toInt ∧ (gi (C_84 0) 23).toInt ≤ 250 := fM_0_23 t_87
                  have : 0 ≤ (gi (C_84 0) 13).toInt ∧ (gi (C_84 0) 13).toInt ≤ 5 := fM_0_13 t_87
                  have : 0 ≤ (gi (C_89 0) 21).toInt ∧ (gi (C_89 0) 21).toInt ≤ 250 := fM_0_21 t_91
                  have : 0 ≤ (gi (C_89 0) 7).toInt ∧ (gi (C_89 0) 7).toInt ≤ 250 := fM_0_7 t_91
                  have : 0 ≤ (gi (C_89 0) 23).toInt ∧ (gi (C_89 0) 23).toInt ≤ 250 := fM_0_23 t_91
                  have : 0 ≤ (gi (C_89 0) 13).toInt ∧ (gi (C_89 0) 13).toInt ≤ 5 := fM_0_13 t_91
                  rw [hQ]
                  exact W.zret (v := 1) (ty := .boolean) hx hb hr (by decide) (fun t ht hW => ⟨⟨1, C_89, rfl, ⟨hT, hF, ⟨(Or.inr rfl), ⟨(by omega), (by omega)⟩⟩⟩, ⟨by rw [ht]; exact hP, hD⟩⟩, hS.F ht⟩) hS.2.2 dX7_roadTold_132
                · refine lv_iconst (v := 0) hx hb dX7_roadTold_119 (by decide) ?_
                  have : (gi (C_84 0) 7).toInt = (gi (C_78 0) 7).toInt := congrArg (fun z => (vi z).toInt) (f_86.2 7 (by decide))
                  have : (gi (C_84 0) 13).toInt = (gi (C_78 0) 13).toInt := congrArg (fun z => (vi z).toInt) (f_86.2 13 (by decide))
                  have : 0 ≤ (gi (C_84 0) 21).toInt ∧ (gi (C_84 0) 21).toInt ≤ 250 := fM_0_21 t_87
                  have : 0 ≤ (gi (C_84 0) 7).toInt ∧ (gi (C_84 0) 7).toInt ≤ 250 := fM_0_7 t_87
                  have : 0 ≤ (gi (C_84 0) 23).toInt ∧ (gi (C_84 0) 23).toInt ≤ 250 := fM_0_23 t_87
                  have : 0 ≤ (gi (C_84 0) 13).toInt ∧ (gi (C_84 0) 13).toInt ≤ 5 := fM_0_13 t_87
                  rw [hQ]
                  exact W.zret (v := 0) (ty := .boolean) hx hb hr (by decide) (fun t ht hW => ⟨⟨0, C_84, rfl, ⟨hT, hF, ⟨(Or.inl rfl), ⟨(by omega), hq_85.2.1.2⟩⟩⟩, ⟨by rw [ht]; exact hP, hD⟩⟩, hS.F ht⟩) hS.2.2 dX7_roadTold_120
          · refine lv_iconst (v := 0) hx hb dX7_roadTold_75 (by decide) ?_
            have : (gi (C_64 0) 7).toInt = (gi (C_57 0) 7).toInt := congrArg (fun z => (vi z).toInt) (f_66.2 7 (by decide))
            have : (gi (C_64 0) 13).toInt = (gi (C_57 0) 13).toInt := congrArg (fun z => (vi z).toInt) (f_66.2 13 (by decide))
            have : 0 ≤ (gi (C_64 0) 21).toInt ∧ (gi (C_64 0) 21).toInt ≤ 250 := fM_0_21 t_67
            have : 0 ≤ (gi (C_64 0) 7).toInt ∧ (gi (C_64 0) 7).toInt ≤ 250 := fM_0_7 t_67
            have : 0 ≤ (gi (C_64 0) 23).toInt ∧ (gi (C_64 0) 23).toInt ≤ 250 := fM_0_23 t_67
            have : 0 ≤ (gi (C_64 0) 13).toInt ∧ (gi (C_64 0) 13).toInt ≤ 5 := fM_0_13 t_67
            rw [hQ]
            exact W.zret (v := 0) (ty := .boolean) hx hb hr (by decide) (fun t ht hW => ⟨⟨0, C_64, rfl, ⟨hT, hF, ⟨(Or.inl rfl), ⟨(by omega), hq_65.2.1.2⟩⟩⟩, ⟨by rw [ht]; exact hP, hD⟩⟩, hS.F ht⟩) hS.2.2 dX7_roadTold_76
      · refine lv_aload_n hx hb dX7_roadTold_44 rfl (lv_at hl 0 rfl) ?_
        refine tm_V (As := []) (rest := []) ⟨hx, hb, hml, hown, htg⟩ (c_X7_wrong l D E G _ a C_12 n hn hT) (cwV 0 htg (oh_gV q_1229 q_1231 q_44 q_73 q_1232) rfl rfl rfl pdVX7_wrong ⟨Nat.le_of_ble_eq_true rfl, Nat.le_of_ble_eq_true rfl⟩) hK hP hD hG hS hA (va_recv hK hP (ci := 7) (q0 := 0) rfl (oh_wg (Nat.lt_of_lt_of_le (by decide) hn) (sM_0 hT))) rfl hl.1 rfl (Nat.le_of_ble_eq_true rfl) dX7_roadTold_45 ⟨Nat.le_of_ble_eq_true rfl, Nat.le_of_ble_eq_true rfl⟩ (fun r_92 C_93 H locs hq_94 hP hD hS => ?_)
        obtain ⟨hT, f_95, hq_94⟩ := hq_94
        have hF := fr_tr hF f_95 (by decide) (by decide)
        refine W.widen (k := 0) (n := 0) (Nat.le_refl _) (Nat.le_refl _) ?_
        have t_96 := hT
        have : (gi (C_12 0) 7).toInt = (gi (C_7 0) 7).toInt := congrArg (fun z => (vi z).toInt) (f_14.2 7 (by decide))
        have : (gi (C_12 0) 13).toInt = (gi (C_7 0) 13).toInt := congrArg (fun z => (vi z).toInt) (f_14.2 13 (by decide))
        have : (gi (C_93 0) 21).toInt = (gi (C_12 0) 21).toInt := congrArg (fun z => (vi z).toInt) (f_95.2 21 (by decide))
        have : (gi (C_93 0) 7).toInt = (gi (C_12 0) 7).toInt := congrArg (fun z => (vi z).toInt) (f_95.2 7 (by decide))
        have : (gi (C_93 0) 23).toInt = (gi (C_12 0) 23).toInt := congrArg (fun z => (vi z).toInt) (f_95.2 23 (by decide))
        have : (gi (C_93 0) 13).toInt = (gi (C_12 0) 13).toInt := congrArg (fun z => (vi z).toInt) (f_95.2 13 (by decide))
        have : 0 ≤ (gi (C_12 0) 21).toInt ∧ (gi (C_12 0) 21).toInt ≤ 250 := fM_0_21 t_15
        have : 0 ≤ (gi (C_12 0) 7).toInt ∧ (gi (C_12 0) 7).toInt ≤ 250 := fM_0_7 t_15
        have : 0 ≤ (gi (C_12 0) 23).toInt ∧ (gi (C_12 0) 23).toInt ≤ 250 := fM_0_23 t_15
        have : 0 ≤ (gi (C_12 0) 13).toInt ∧ (gi (C_12 0) 13).toInt ≤ 5 := fM_0_13 t_15
        have : 0 ≤ (gi (C_93 0) 21).toInt ∧ (gi (C_93 0) 21).toInt ≤ 250 := fM_0_21 t_96
        have : 0 ≤ (gi (C_93 0) 7).toInt ∧ (gi (C_93 0) 7).toInt ≤ 250 := fM_0_7 t_96
        have : 0 ≤ (gi (C_93 0) 23).toInt ∧ (gi (C_93 0) 23).toInt ≤ 250 := fM_0_23 t_96
        have : 0 ≤ (gi (C_93 0) 13).toInt ∧ (gi (C_93 0) 13).toInt ≤ 5 := fM_0_13 t_96
        have : (2 : Int32).toInt = 2 := rfl
        rw [hQ]
        exact W.zret (v := r_92) (ty := .boolean) hx hb hr (oh_nb hq_94.1) (fun t ht hW => ⟨⟨r_92, C_93, rfl, ⟨hT, hF, ⟨hq_94.1, ⟨(by omega), (by omega)⟩⟩⟩, ⟨by rw [ht]; exact hP, hD⟩⟩, hS.F ht⟩) hS.2.2 dX7_roadTold_48
  · refine lv_iconst (v := 0) hx hb dX7_roadTold_22 (by decide) ?_
    have : (gi (C_12 0) 7).toInt = (gi (C_7 0) 7).toInt := congrArg (fun z => (vi z).toInt) (f_14.2 7 (by decide))
    have : (gi (C_12 0) 13).toInt = (gi (C_7 0) 13).toInt := congrArg (fun z => (vi z).toInt) (f_14.2 13 (by decide))
    have : 0 ≤ (gi (C_12 0) 21).toInt ∧ (gi (C_12 0) 21).toInt ≤ 250 := fM_0_21 t_15
    have : 0 ≤ (gi (C_12 0) 7).toInt ∧ (gi (C_12 0) 7).toInt ≤ 250 := fM_0_7 t_15
    have : 0 ≤ (gi (C_12 0) 23).toInt ∧ (gi (C_12 0) 23).toInt ≤ 250 := fM_0_23 t_15
    have : 0 ≤ (gi (C_12 0) 13).toInt ∧ (gi (C_12 0) 13).toInt ≤ 5 := fM_0_13 t_15
    rw [hQ]
    exact W.zret (v := 0) (ty := .boolean) hx hb hr (by decide) (fun t ht hW => ⟨⟨0, C_12, rfl, ⟨hT, hF, ⟨(Or.inl rfl), ⟨(by omega), hq_13.2.1.2⟩⟩⟩, ⟨by rw [ht]; exact hP, hD⟩⟩, hS.F ht⟩) hS.2.2 dX7_roadTold_23

set_option maxHeartbeats 4000000 in
set_option maxRecDepth 100000 in
theorem c_X7_bridgeTold (l : Launch) (D : va_G) (E : Nat → ClassId) (G : Nat → Nat) (sz : Nat) (a : Nat → Nat) (C : Nat → va_E) (n : Nat) (hn : 74 ≤ n) (hT : TyM a E C) (h9 : rg (gi (C 0) 11) 0 15) (hat : (gi (C 0) 21).toInt ≤ (gi (C 0) 7).toInt) : Met l yX7_bridgeTold (oh_w yX7_bridgeTold cX7_bridgeTold 2 (some .boolean)) ({ frames := 6, cells := 0, slots := 0, locals := 132 }) (oh_Pm D E G [.ref (a 0), .ref (a (48 + (gi (C 0) 11).toNatClampNeg))] (oh_W n a C) sz) (va_Qi (fun r (u : Nat → va_E) => TyM a E u ∧ fr [(48, 64)] [11, 21, 22, 23, 24, 25] C u ∧ (r = 0 ∨ r = 1) ∧ (((gi (C 0) 21).toInt ≤ (gi (u 0) 21).toInt) ∧ ((gi (u 0) 21).toInt ≤ (gi (u 0) 7).toInt))) (oh_B D (va_A (oh_W n a C) sz) (fun u => oh_W n a u)) (va_A (oh_W n a C) sz)) 0 0 (va_A (oh_W n a C) sz) := by
  refine Met.ofW (cc := cX7_bridgeTold) (maxL := 2) (ret := (some .boolean)) (by decide) rfl ?_
  intro p e s m args below meth c s₁ B hml hv
  obtain ⟨rfl, hsz, hP, hK, hD0, hG⟩ := hv
  have hx := B.exec
  have hb := B.bytes
  have hr := B.returns
  have hts := atoms_spec (ws := (oh_w yX7_bridgeTold cX7_bridgeTold 2 (some .boolean))) B.pre
  have htg : ∀ w ∈ oh_t, w.before _ s = true := fun w h => hts w (List.mem_cons_of_mem _ h)
  have hown : s.vm.findClass RX7 = some m.cls := findClass_of_methodNamed B.named
  have hlocks := B.notSynchronized
  have hT0 := hT
  subst hsz
  have hD := hD0.self (sz := s.heap.size)
  generalize hAe : va_A (oh_W n a C) s.heap.size = A at hD hG ⊢
  have hA : ∀ q : Nat, s.heap.size ≤ q → A q := fun q h => by rw [← hAe]; exact Or.inr h
  have hS : va_S A s.heap s.heap [] := va_S.rf
  have hF : fr [(48, 64)] [11, 21, 22, 23, 24, 25] C C := fr_rf
  have hl := lv_entry ([.ref (a 0), .ref (a (48 + (gi (C 0) 11).toNatClampNeg))]) (n := 2) (Nat.le_of_ble_eq_true rfl)
  rw [lg_entry_eq]
  generalize (lg_sl ([.ref (a 0), .ref (a (48 + (gi (C 0) 11).toNatClampNeg))]) ++ List.replicate (2 - (lg_sl ([.ref (a 0), .ref (a (48 + (gi (C 0) 11).toNatClampNeg))])).length) Slot.unset).toArray = ls at hl ⊢
  have hl : lv_has ls 2 [(0, .ref (a 0)), (1, .ref (a (48 + (gi (C 0) 11).toNatClampNeg)))] := hl
  refine oh_genQ (fun Q hQ => ?_)
  have hb0 : (gi (C 0) 11).toNatClampNeg < 16 := vp_lt (rg_in h9 (by decide))
  refine lv_aload_n hx hb dX7_bridgeTold_0 rfl (lv_at hl 0 rfl) ?_
  refine tm_Vv (As := []) (rest := []) ⟨hx, hb, hml, hown, htg⟩ (c_X7_newBridge l D E G _ a C n hn hT (rg_w (lo := 0) (hi := 15) h9 (by decide))) (cwV 0 htg (oh_gV q_1150 q_1152 q_37 q_73 q_1153) rfl rfl rfl pdVX7_newBridge ⟨Nat.le_of_ble_eq_true rfl, Nat.le_of_ble_eq_true rfl⟩) hK hP hD hG hS hA (va_recv hK hP (ci := 7) (q0 := 0) rfl (oh_wg (Nat.lt_of_lt_of_le (by decide) hn) (sM_0 hT))) rfl hl.1 rfl (Nat.le_of_ble_eq_true rfl) dX7_bridgeTold_1 ⟨Nat.le_of_ble_eq_true rfl, Nat.le_of_ble_eq_true rfl⟩ (fun C_2 H locs hq_3 hP hD hS => ?_)
  obtain ⟨hT, f_4, hq_3⟩ := hq_3
  have hF := fr_tr hF f_4 (by decide) (by decide)
  refine W.widen (k := 0) (n := 0) (Nat.le_refl _) (Nat.le_refl _) ?_
  have t_5 := hT
  refine lv_aload_n hx hb dX7_bridgeTold_4 rfl (lv_at hl 0 rfl) ?_
  have : (gi (C_2 0) 21).toInt = (gi (C 0) 21).toInt := congrArg (fun z => (vi z).toInt) (f_4.2 21 (by decide))
  have : (gi (C_2 0) 7).toInt = (gi (C 0) 7).toInt := congrArg (fun z => (vi z).toInt) (f_4.2 7 (by decide))
  have : (gi (C_2 0) 23).toInt = (gi (C 0) 23).toInt := congrArg (fun z => (vi z).toInt) (f_4.2 23 (by decide))
  have : (gi (C_2 0) 13).toInt = (gi (C 0) 13).toInt := congrArg (fun z => (vi z).toInt) (f_4.2 13 (by decide))
  have : 0 ≤ (gi (C 0) 21).toInt ∧ (gi (C 0) 21).toInt ≤ 250 := fM_0_21 hT0
  have : 0 ≤ (gi (C 0) 7).toInt ∧ (gi (C 0) 7).toInt ≤ 250 := fM_0_7 hT0
  have : 0 ≤ (gi (C 0) 23).toInt ∧ (gi (C 0) 23).toInt ≤ 250 := fM_0_23 hT0
  have : 0 ≤ (gi (C 0) 13).toInt ∧ (gi (C 0) 13).toInt ≤ 5 := fM_0_13 hT0
  have : 0 ≤ (gi (C_2 0) 21).toInt ∧ (gi (C_2 0) 21).toInt ≤ 250 := fM_0_21 t_5
  have : 0 ≤ (gi (C_2 0) 7).toInt ∧ (gi (C_2 0) 7).toInt ≤ 250 := fM_0_7 t_5
  have : 0 ≤ (gi (C_2 0) 23).toInt ∧ (gi (C_2 0) 23).toInt ≤ 250 := fM_0_23 t_5
  have : 0 ≤ (gi (C_2 0) 13).toInt ∧ (gi (C_2 0) 13).toInt ≤ 5 := fM_0_13 t_5
  refine tm_Vv (As := []) (rest := []) ⟨hx, hb, hml, hown, htg⟩ (c_X7_look l D E G _ a C_2 n hn hT (by omega)) (cwV 0 htg (oh_gV q_1197 q_1199 q_39 q_73 q_1200) rfl rfl rfl pdVX7_look ⟨Nat.le_of_ble_eq_true rfl, Nat.le_of_ble_eq_true rfl⟩) hK hP hD hG hS hA (va_recv hK hP (ci := 7) (q0 := 0) rfl (oh_wg (Nat.lt_of_lt_of_le (by decide) hn) (sM_0 hT))) rfl hl.1 rfl (Nat.le_of_ble_eq_true rfl) dX7_bridgeTold_5 ⟨Nat.le_of_ble_eq_true rfl, Nat.le_of_ble_eq_true rfl⟩ (fun C_7 H locs hq_8 hP hD hS => ?_)
  obtain ⟨hT, f_9, hq_8⟩ := hq_8
  have hF := fr_tr hF f_9 (by decide) (by decide)
  refine W.widen (k := 0) (n := 0) (Nat.le_refl _) (Nat.le_refl _) ?_
  have t_10 := hT
  refine lv_aload_n hx hb dX7_bridgeTold_8 rfl (lv_at hl 0 rfl) ?_
  refine lv_aload_n hx hb dX7_bridgeTold_9 rfl (lv_at hl 1 rfl) ?_
  refine lv_iconst (v := 0) hx hb dX7_bridgeTold_10 (by decide) ?_
  refine lv_iconst (v := 0) hx hb dX7_bridgeTold_11 (by decide) ?_
  refine lv_aload_n hx hb dX7_bridgeTold_12 rfl (lv_at hl 0 rfl) ?_
  refine va_get (D := D) (ci := 7) (v := .int (gi (C 0) 9)) (C := RX7) (T := TX7) (N := 29) hx hb htg ig_7 hown hK hP 0 (oh_wg (Nat.lt_of_lt_of_le (by decide) hn) (sM_0 hT)) rfl 9 (by decide) (htg _ q_982) (fun _ h9 => h9) (oh_fv (c := C_7 0) (j := 9) rfl (Eq.trans (congrArg vi (f_9.2 9 (by decide))) (congrArg vi (f_4.2 9 (by decide))))) dX7_bridgeTold_13 ?_
  refine lv_iconst (v := 1) hx hb dX7_bridgeTold_16 (by decide) ?_
  refine lv_isub hx hb dX7_bridgeTold_17 ?_
  have : (gi (C_7 0) 7).toInt = (gi (C_2 0) 7).toInt := congrArg (fun z => (vi z).toInt) (f_9.2 7 (by decide))
  have : (gi (C_7 0) 13).toInt = (gi (C_2 0) 13).toInt := congrArg (fun z => (vi z).toInt) (f_9.2 13 (by decide))
  have : 0 ≤ (gi (C_7 0) 21).toInt ∧ (gi (C_7 0) 21).toInt ≤ 250 := fM_0_21 t_10
  have : 0 ≤ (gi (C_7 0) 7).toInt ∧ (gi (C_7 0) 7).toInt ≤ 250 := fM_0_7 t_10
  have : 0 ≤ (gi (C_7 0) 23).toInt ∧ (gi (C_7 0) 23).toInt ≤ 250 := fM_0_23 t_10
  have : 0 ≤ (gi (C_7 0) 13).toInt ∧ (gi (C_7 0) 13).toInt ≤ 5 := fM_0_13 t_10
  refine tm_V (As := [.ref (a (48 + (gi (C 0) 11).toNatClampNeg)), .int 0, .int 0, .int ((gi (C 0) 9) - 1)]) (rest := []) ⟨hx, hb, hml, hown, htg⟩ (c_X7_number l D E G _ a C_7 n hn hT (48 + (gi (C 0) 11).toNatClampNeg) (0 : Int32) (0 : Int32) ((gi (C 0) 9) - 1) ⟨(lt_blk hb0 hn (by decide)), (by omega), 10, fun C h => (h.bbridge hb0).1, (rg_in (rg_c (v := 0) (lo := 0) (hi := 0) (by decide)) (by decide)), fun C v h h1 h2 => (h.upbridge hb0 (tA_upd (h.bbridge hb0) tA_any))⟩ (by omega)) (cwV 4 htg (oh_gV q_1225 q_1227 q_43 q_73 q_1228) rfl rfl rfl pdVX7_number ⟨Nat.le_of_ble_eq_true rfl, Nat.le_of_ble_eq_true rfl⟩) hK hP hD hG hS hA (va_recv hK hP (ci := 7) (q0 := 0) rfl (oh_wg (Nat.lt_of_lt_of_le (by decide) hn) (sM_0 hT))) rfl hl.1 rfl (Nat.le_of_ble_eq_true rfl) dX7_bridgeTold_18 ⟨Nat.le_of_ble_eq_true rfl, Nat.le_of_ble_eq_true rfl⟩ (fun r_11 C_12 H locs hq_13 hP hD hS => ?_)
  obtain ⟨hT, f_14, hq_13⟩ := hq_13
  have hF := fr_trk hF f_14 (inR_of (p := (48, 64)) (by decide) (by show 48 ≤ _; omega) (by show _ < 64; omega)) (by decide)
  refine W.widen (k := 0) (n := 0) (Nat.le_refl _) (Nat.le_refl _) ?_
  have t_15 := hT
  refine lv_if_eq (tgt := 51) hx hb dX7_bridgeTold_21 (by decide) (fun (c_16 : r_11 = 0) => ?_) (fun (c_16 : ¬ (r_11 = 0)) => ?_)
  · refine lv_iconst (v := 0) hx hb dX7_bridgeTold_51 (by decide) ?_
    have : (gi (C_12 0) 7).toInt = (gi (C_7 0) 7).toInt := congrArg (fun z => (vi z).toInt) (f_14.2 7 (by decide))
    have : (gi (C_12 0) 13).toInt = (gi (C_7 0) 13).toInt := congrArg (fun z => (vi z).toInt) (f_14.2 13 (by decide))
    have : 0 ≤ (gi (C_12 0) 21).toInt ∧ (gi (C_12 0) 21).toInt ≤ 250 := fM_0_21 t_15
    have : 0 ≤ (gi (C_12 0) 7).toInt ∧ (gi (C_12 0) 7).toInt ≤ 250 := fM_0_7 t_15
    have : 0 ≤ (gi (C_12 0) 23).toInt ∧ (gi (C_12 0) 23).toInt ≤ 250 := fM_0_23 t_15
    have : 0 ≤ (gi (C_12 0) 13).toInt ∧ (gi (C_12 0) 13).toInt ≤ 5 := fM_0_13 t_15
    rw [hQ]
    exact W.zret (v := 0) (ty := .boolean) hx hb hr (by decide) (fun t ht hW => ⟨⟨0, C_12, rfl, ⟨hT, hF, ⟨(Or.inl rfl), ⟨(by omega), hq_13.2.1.2⟩⟩⟩, ⟨by rw [ht]; exact hP, hD⟩⟩, hS.F ht⟩) hS.2.2 dX7_bridgeTold_52
  · have u_17 := hq_13.2.2.2 c_16
    refine lv_aload_n hx hb dX7_bridgeTold_24 rfl (lv_at hl 0 rfl) ?_
    refine va_ldcS hx hb hown (hG.2.2.1 ("OneHeavyLoadModel", 230, "kind", 26) (List.mem_of_getElem? (i := 23) rfl)) dX7_bridgeTold_25 ?_
    refine lv_aload_n hx hb dX7_bridgeTold_27 rfl (lv_at hl 1 rfl) ?_
    refine lv_iconst (v := 1) hx hb dX7_bridgeTold_28 (by decide) ?_
    refine lv_iconst (v := 0) hx hb dX7_bridgeTold_29 (by decide) ?_
    refine lv_iconst (v := 5) hx hb dX7_bridgeTold_30 (by decide) ?_
    have : (gi (C_12 0) 7).toInt = (gi (C_7 0) 7).toInt := congrArg (fun z => (vi z).toInt) (f_14.2 7 (by decide))
    have : (gi (C_12 0) 13).toInt = (gi (C_7 0) 13).toInt := congrArg (fun z => (vi z).toInt) (f_14.2 13 (by decide))
    have : 0 ≤ (gi (C_12 0) 21).toInt ∧ (gi (C_12 0) 21).toInt ≤ 250 := fM_0_21 t_15
    have : 0 ≤ (gi (C_12 0) 7).toInt ∧ (gi (C_12 0) 7).toInt ≤ 250 := fM_0_7 t_15
    have : 0 ≤ (gi (C_12 0) 23).toInt ∧ (gi (C_12 0) 23).toInt ≤ 250 := fM_0_23 t_15
    have : 0 ≤ (gi (C_12 0) 13).toInt ∧ (gi (C_12 0) 13).toInt ≤ 5 := fM_0_13 t_15
    refine tm_V (As := [.ref (G (3 + 23)), .ref (a (48 + (gi (C 0) 11).toNatClampNeg)), .int 1, .int 0, .int 5]) (rest := []) ⟨hx, hb, hml, hown, htg⟩ (c_X7_told l D E G _ a C_12 n hn hT 23 (48 + (gi (C 0) 11).toNatClampNeg) (1 : Int32) (0 : Int32) (5 : Int32) (by decide) ⟨(lt_blk hb0 hn (by decide)), (by omega), 10, fun C h => (h.bbridge hb0).1, (rg_in (rg_c (v := 1) (lo := 1) (hi := 1) (by decide)) (by decide)), fun C v h h1 h2 => (h.upbridge hb0 (tA_upd (h.bbridge hb0) tA_any))⟩ (by omega)) (cwV 5 htg (oh_gV q_1234 q_1236 q_45 q_73 q_1237) rfl rfl rfl pdVX7_told ⟨Nat.le_of_ble_eq_true rfl, Nat.le_of_ble_eq_true rfl⟩) hK hP hD hG hS hA (va_recv hK hP (ci := 7) (q0 := 0) rfl (oh_wg (Nat.lt_of_lt_of_le (by decide) hn) (sM_0 hT))) rfl hl.1 rfl (Nat.le_of_ble_eq_true rfl) dX7_bridgeTold_31 ⟨Nat.le_of_ble_eq_true rfl, Nat.le_of_ble_eq_true rfl⟩ (fun r_18 C_19 H locs hq_20 hP hD hS => ?_)
    obtain ⟨hT, f_21, hq_20⟩ := hq_20
    have hF := fr_trk hF f_21 (inR_of (p := (48, 64)) (by decide) (by show 48 ≤ _; omega) (by show _ < 64; omega)) (by decide)
    refine W.widen (k := 0) (n := 0) (Nat.le_refl _) (Nat.le_refl _) ?_
    have t_22 := hT
    refine lv_if_eq (tgt := 51) hx hb dX7_bridgeTold_34 (by decide) (fun (c_23 : r_18 = 0) => ?_) (fun (c_23 : ¬ (r_18 = 0)) => ?_)
    · refine lv_iconst (v := 0) hx hb dX7_bridgeTold_51 (by decide) ?_
      have : (gi (C_19 0) 7).toInt = (gi (C_12 0) 7).toInt := congrArg (fun z => (vi z).toInt) (f_21.2 7 (by decide))
      have : (gi (C_19 0) 13).toInt = (gi (C_12 0) 13).toInt := congrArg (fun z => (vi z).toInt) (f_21.2 13 (by decide))
      have : 0 ≤ (gi (C_19 0) 21).toInt ∧ (gi (C_19 0) 21).toInt ≤ 250 := fM_0_21 t_22
      have : 0 ≤ (gi (C_19 0) 7).toInt ∧ (gi (C_19 0) 7).toInt ≤ 250 := fM_0_7 t_22
      have : 0 ≤ (gi (C_19 0) 23).toInt ∧ (gi (C_19 0) 23).toInt ≤ 250 := fM_0_23 t_22
      have : 0 ≤ (gi (C_19 0) 13).toInt ∧ (gi (C_19 0) 13).toInt ≤ 5 := fM_0_13 t_22
      rw [hQ]
      exact W.zret (v := 0) (ty := .boolean) hx hb hr (by decide) (fun t ht hW => ⟨⟨0, C_19, rfl, ⟨hT, hF, ⟨(Or.inl rfl), ⟨(by omega), hq_20.2.1.2⟩⟩⟩, ⟨by rw [ht]; exact hP, hD⟩⟩, hS.F ht⟩) hS.2.2 dX7_bridgeTold_52
    · have u_24 := hq_20.2.2.2.1 c_23
      have u_25 := hq_20.2.2.2.2 c_23
      refine lv_aload_n hx hb dX7_bridgeTold_37 rfl (lv_at hl 0 rfl) ?_
      refine va_ldcS hx hb hown (hG.2.2.1 ("OneHeavyLoadModel", 232, "span", 27) (List.mem_of_getElem? (i := 24) rfl)) dX7_bridgeTold_38 ?_
      refine lv_aload_n hx hb dX7_bridgeTold_40 rfl (lv_at hl 1 rfl) ?_
      refine lv_iconst (v := 2) hx hb dX7_bridgeTold_41 (by decide) ?_
      refine lv_iconst (v := 0) hx hb dX7_bridgeTold_42 (by decide) ?_
      refine lv_bipush (v := 60) hx hb dX7_bridgeTold_43 (by decide) ?_
      have : (gi (C_19 0) 7).toInt = (gi (C_12 0) 7).toInt := congrArg (fun z => (vi z).toInt) (f_21.2 7 (by decide))
      have : (gi (C_19 0) 13).toInt = (gi (C_12 0) 13).toInt := congrArg (fun z => (vi z).toInt) (f_21.2 13 (by decide))
      have : 0 ≤ (gi (C_19 0) 21).toInt ∧ (gi (C_19 0) 21).toInt ≤ 250 := fM_0_21 t_22
      have : 0 ≤ (gi (C_19 0) 7).toInt ∧ (gi (C_19 0) 7).toInt ≤ 250 := fM_0_7 t_22
      have : 0 ≤ (gi (C_19 0) 23).toInt ∧ (gi (C_19 0) 23).toInt ≤ 250 := fM_0_23 t_22
      have : 0 ≤ (gi (C_19 0) 13).toInt ∧ (gi (C_19 0) 13).toInt ≤ 5 := fM_0_13 t_22
      refine tm_V (As := [.ref (G (3 + 24)), .ref (a (48 + (gi (C 0) 11).toNatClampNeg)), .int 2, .int 0, .int 60]) (rest := []) ⟨hx, hb, hml, hown, htg⟩ (c_X7_told l D E G _ a C_19 n hn hT 24 (48 + (gi (C 0) 11).toNatClampNeg) (2 : Int32) (0 : Int32) (60 : Int32) (by decide) ⟨(lt_blk hb0 hn (by decide)), (by omega), 10, fun C h => (h.bbridge hb0).1, (rg_in (rg_c (v := 2) (lo := 2) (hi := 2) (by decide)) (by decide)), fun C v h h1 h2 => (h.upbridge hb0 (tA_upd (h.bbridge hb0) tA_any))⟩ (by omega)) (cwV 5 htg (oh_gV q_1234 q_1236 q_45 q_73 q_1237) rfl rfl rfl pdVX7_told ⟨Nat.le_of_ble_eq_true rfl, Nat.le_of_ble_eq_true rfl⟩) hK hP hD hG hS hA (va_recv hK hP (ci := 7) (q0 := 0) rfl (oh_wg (Nat.lt_of_lt_of_le (by decide) hn) (sM_0 hT))) rfl hl.1 rfl (Nat.le_of_ble_eq_true rfl) dX7_bridgeTold_45 ⟨Nat.le_of_ble_eq_true rfl, Nat.le_of_ble_eq_true rfl⟩ (fun r_26 C_27 H locs hq_28 hP hD hS => ?_)
      obtain ⟨hT, f_29, hq_28⟩ := hq_28
      have hF := fr_trk hF f_29 (inR_of (p := (48, 64)) (by decide) (by show 48 ≤ _; omega) (by show _ < 64; omega)) (by decide)
      refine W.widen (k := 0) (n := 0) (Nat.le_refl _) (Nat.le_refl _) ?_
      have t_30 := hT
      refine lv_if_ne (tgt := 53) hx hb dX7_bridgeTold_48 (by decide) (fun (c_31 : ¬ (r_26 = 0)) => ?_) (fun (c_31 : r_26 = 0) => ?_)
      · have u_32 := hq_28.2.2.2.1 c_31
        have u_33 := hq_28.2.2.2.2 c_31
        refine lv_aload_n hx hb dX7_bridgeTold_53 rfl (lv_at hl 0 rfl) ?_
        refine va_ldcS hx hb hown (hG.2.2.1 ("OneHeavyLoadModel", 234, "axle", 28) (List.mem_of_getElem? (i := 25) rfl)) dX7_bridgeTold_54 ?_
        refine lv_aload_n hx hb dX7_bridgeTold_56 rfl (lv_at hl 1 rfl) ?_
        refine lv_iconst (v := 3) hx hb dX7_bridgeTold_57 (by decide) ?_
        refine lv_iconst (v := 1) hx hb dX7_bridgeTold_58 (by decide) ?_
        refine lv_bipush (v := 99) hx hb dX7_bridgeTold_59 (by decide) ?_
        have : (gi (C_27 0) 7).toInt = (gi (C_19 0) 7).toInt := congrArg (fun z => (vi z).toInt) (f_29.2 7 (by decide))
        have : (gi (C_27 0) 13).toInt = (gi (C_19 0) 13).toInt := congrArg (fun z => (vi z).toInt) (f_29.2 13 (by decide))
        have : 0 ≤ (gi (C_27 0) 21).toInt ∧ (gi (C_27 0) 21).toInt ≤ 250 := fM_0_21 t_30
        have : 0 ≤ (gi (C_27 0) 7).toInt ∧ (gi (C_27 0) 7).toInt ≤ 250 := fM_0_7 t_30
        have : 0 ≤ (gi (C_27 0) 23).toInt ∧ (gi (C_27 0) 23).toInt ≤ 250 := fM_0_23 t_30
        have : 0 ≤ (gi (C_27 0) 13).toInt ∧ (gi (C_27 0) 13).toInt ≤ 5 := fM_0_13 t_30
        refine tm_V (As := [.ref (G (3 + 25)), .ref (a (48 + (gi (C 0) 11).toNatClampNeg)), .int 3, .int 1, .int 99]) (rest := []) ⟨hx, hb, hml, hown, htg⟩ (c_X7_told l D E G _ a C_27 n hn hT 25 (48 + (gi (C 0) 11).toNatClampNeg) (3 : Int32) (1 : Int32) (99 : Int32) (by decide) ⟨(lt_blk hb0 hn (by decide)), (by omega), 10, fun C h => (h.bbridge hb0).1, (rg_in (rg_c (v := 3) (lo := 3) (hi := 3) (by decide)) (by decide)), fun C v h h1 h2 => (h.upbridge hb0 (tA_upd (h.bbridge hb0) tA_any))⟩ (by omega)) (cwV 5 htg (oh_gV q_1234 q_1236 q_45 q_73 q_1237) rfl rfl rfl pdVX7_told ⟨Nat.le_of_ble_eq_true rfl, Nat.le_of_ble_eq_true rfl⟩) hK hP hD hG hS hA (va_recv hK hP (ci := 7) (q0 := 0) rfl (oh_wg (Nat.lt_of_lt_of_le (by decide) hn) (sM_0 hT))) rfl hl.1 rfl (Nat.le_of_ble_eq_true rfl) dX7_bridgeTold_61 ⟨Nat.le_of_ble_eq_true rfl, Nat.le_of_ble_eq_true rfl⟩ (fun r_34 C_35 H locs hq_36 hP hD hS => ?_)
        obtain ⟨hT, f_37, hq_36⟩ := hq_36
        have hF := fr_trk hF f_37 (inR_of (p := (48, 64)) (by decide) (by show 48 ≤ _; omega) (by show _ < 64; omega)) (by decide)
        refine W.widen (k := 0) (n := 0) (Nat.le_refl _) (Nat.le_refl _) ?_
        have t_38 := hT
        refine lv_if_eq (tgt := 82) hx hb dX7_bridgeTold_64 (by decide) (fun (c_39 : r_34 = 0) => ?_) (fun (c_39 : ¬ (r_34 = 0)) => ?_)
        · refine lv_iconst (v := 0) hx hb dX7_bridgeTold_82 (by decide) ?_
          have : (gi (C_35 0) 7).toInt = (gi (C_27 0) 7).toInt := congrArg (fun z => (vi z).toInt) (f_37.2 7 (by decide))
          have : (gi (C_35 0) 13).toInt = (gi (C_27 0) 13).toInt := congrArg (fun z => (vi z).toInt) (f_37.2 13 (by decide))
          have : 0 ≤ (gi (C_35 0) 21).toInt ∧ (gi (C_35 0) 21).toInt ≤ 250 := fM_0_21 t_38
          have : 0 ≤ (gi (C_35 0) 7).toInt ∧ (gi (C_35 0) 7).toInt ≤ 250 := fM_0_7 t_38
          have : 0 ≤ (gi (C_35 0) 23).toInt ∧ (gi (C_35 0) 23).toInt ≤ 250 := fM_0_23 t_38
          have : 0 ≤ (gi (C_35 0) 13).toInt ∧ (gi (C_35 0) 13).toInt ≤ 5 := fM_0_13 t_38
          rw [hQ]
          exact W.zret (v := 0) (ty := .boolean) hx hb hr (by decide) (fun t ht hW => ⟨⟨0, C_35, rfl, ⟨hT, hF, ⟨(Or.inl rfl), ⟨(by omega), hq_36.2.1.2⟩⟩⟩, ⟨by rw [ht]; exact hP, hD⟩⟩, hS.F ht⟩) hS.2.2 dX7_bridgeTold_83
        · have u_40 := hq_36.2.2.2.1 c_39
          have u_41 := hq_36.2.2.2.2 c_39
          refine lv_aload_n hx hb dX7_bridgeTold_67 rfl (lv_at hl 0 rfl) ?_
          refine va_ldcS hx hb hown (hG.2.2.1 ("OneHeavyLoadModel", 236, "all", 29) (List.mem_of_getElem? (i := 26) rfl)) dX7_bridgeTold_68 ?_
          refine lv_aload_n hx hb dX7_bridgeTold_70 rfl (lv_at hl 1 rfl) ?_
          refine lv_iconst (v := 4) hx hb dX7_bridgeTold_71 (by decide) ?_
          refine lv_iconst (v := 1) hx hb dX7_bridgeTold_72 (by decide) ?_
          refine lv_sipush (v := 999) hx hb dX7_bridgeTold_73 (by decide) ?_
          have : (gi (C_35 0) 7).toInt = (gi (C_27 0) 7).toInt := congrArg (fun z => (vi z).toInt) (f_37.2 7 (by decide))
          have : (gi (C_35 0) 13).toInt = (gi (C_27 0) 13).toInt := congrArg (fun z => (vi z).toInt) (f_37.2 13 (by decide))
          have : 0 ≤ (gi (C_35 0) 21).toInt ∧ (gi (C_35 0) 21).toInt ≤ 250 := fM_0_21 t_38
          have : 0 ≤ (gi (C_35 0) 7).toInt ∧ (gi (C_35 0) 7).toInt ≤ 250 := fM_0_7 t_38
          have : 0 ≤ (gi (C_35 0) 23).toInt ∧ (gi (C_35 0) 23).toInt ≤ 250 := fM_0_23 t_38
          have : 0 ≤ (gi (C_35 0) 13).toInt ∧ (gi (C_35 0) 13).toInt ≤ 5 := fM_0_13 t_38
          refine tm_V (As := [.ref (G (3 + 26)), .ref (a (48 + (gi (C 0) 11).toNatClampNeg)), .int 4, .int 1, .int 999]) (rest := []) ⟨hx, hb, hml, hown, htg⟩ (c_X7_told l D E G _ a C_35 n hn hT 26 (48 + (gi (C 0) 11).toNatClampNeg) (4 : Int32) (1 : Int32) (999 : Int32) (by decide) ⟨(lt_blk hb0 hn (by decide)), (by omega), 10, fun C h => (h.bbridge hb0).1, (rg_in (rg_c (v := 4) (lo := 4) (hi := 4) (by decide)) (by decide)), fun C v h h1 h2 => (h.upbridge hb0 (tA_upd (h.bbridge hb0) tA_any))⟩ (by omega)) (cwV 5 htg (oh_gV q_1234 q_1236 q_45 q_73 q_1237) rfl rfl rfl pdVX7_told ⟨Nat.le_of_ble_eq_true rfl, Nat.le_of_ble_eq_true rfl⟩) hK hP hD hG hS hA (va_recv hK hP (ci := 7) (q0 := 0) rfl (oh_wg (Nat.lt_of_lt_of_le (by decide) hn) (sM_0 hT))) rfl hl.1 rfl (Nat.le_of_ble_eq_true rfl) dX7_bridgeTold_76 ⟨Nat.le_of_ble_eq_true rfl, Nat.le_of_ble_eq_true rfl⟩ (fun r_42 C_43 H locs hq_44 hP hD hS => ?_)
          obtain ⟨hT, f_45, hq_44⟩ := hq_44
          have hF := fr_trk hF f_45 (inR_of (p := (48, 64)) (by decide) (by show 48 ≤ _; omega) (by show _ < 64; omega)) (by decide)
          refine W.widen (k := 0) (n := 0) (Nat.le_refl _) (Nat.le_refl _) ?_
          have t_46 := hT
          refine lv_if_ne (tgt := 84) hx hb dX7_bridgeTold_79 (by decide) (fun (c_47 : ¬ (r_42 = 0)) => ?_) (fun (c_47 : r_42 = 0) => ?_)
          · have u_48 := hq_44.2.2.2.1 c_47
            have u_49 := hq_44.2.2.2.2 c_47
            refine lv_aload_n hx hb dX7_bridgeTold_84 rfl (lv_at hl 0 rfl) ?_
            refine va_ldcS hx hb hown (hG.2.2.1 ("OneHeavyLoadModel", 238, "prop", 30) (List.mem_of_getElem? (i := 27) rfl)) dX7_bridgeTold_85 ?_
            refine tq_V (As := [.ref (G (3 + 27))]) (rest := []) (ws := (oh_W n a C_43)) ⟨hx, hb, hml, hown, htg⟩ (c_X7_isWord l D E G a C_43 n hn hT 27 (by decide)) (cwV 1 htg (oh_gV q_1215 q_1217 q_41 q_73 q_1218) rfl rfl rfl pdVX7_isWord ⟨Nat.le_of_ble_eq_true rfl, Nat.le_of_ble_eq_true rfl⟩) hK hP hG hS (va_recv hK hP (ci := 7) (q0 := 0) rfl (oh_wg (Nat.lt_of_lt_of_le (by decide) hn) (sM_0 hT))) rfl hl.1 rfl (Nat.le_of_ble_eq_true rfl) dX7_bridgeTold_87 ⟨Nat.le_of_ble_eq_true rfl, Nat.le_of_ble_eq_true rfl⟩ (fun r_50 hq_51 => ?_)
            refine lv_if_eq (tgt := 124) hx hb dX7_bridgeTold_90 (by decide) (fun (c_52 : r_50 = 0) => ?_) (fun (c_52 : ¬ (r_50 = 0)) => ?_)
            · refine lv_aload_n hx hb dX7_bridgeTold_124 rfl (lv_at hl 0 rfl) ?_
              refine lv_dup hx hb dX7_bridgeTold_125 rfl ?_
              refine va_get (D := D) (ci := 7) (v := .int (gi (C 0) 11)) (C := RX7) (T := TX7) (N := 29) hx hb htg ig_7 hown hK hP 0 (oh_wg (Nat.lt_of_lt_of_le (by decide) hn) (sM_0 hT)) rfl 11 (by decide) (htg _ q_984) (fun _ h9 => h9) (oh_fv (c := C_43 0) (j := 11) rfl (Eq.trans (congrArg vi (f_45.2 11 (by decide))) (Eq.trans (congrArg vi (f_37.2 11 (by decide))) (Eq.trans (congrArg vi (f_29.2 11 (by decide))) (Eq.trans (congrArg vi (f_21.2 11 (by decide))) (Eq.trans (congrArg vi (f_14.2 11 (by decide))) (Eq.trans (congrArg vi (f_9.2 11 (by decide))) (congrArg vi (f_4.2 11 (by decide)))))))))) dX7_bridgeTold_126 ?_
              refine lv_iconst (v := 1) hx hb dX7_bridgeTold_129 (by decide) ?_
              refine lv_iadd hx hb dX7_bridgeTold_130 ?_
              refine th_put (Tp := TyM a E) (Rl := fr [(48, 64)] [11, 21, 22, 23, 24, 25] C) (ci := 7) (v := .int ((gi (C 0) 11) + 1)) (ty := .int) (CC := RX7) (T := TX7) (N := 29) hx hb htg ig_7 tyX7 tyX7_ok nmX7 hown hK hP hD hS 0 (Nat.lt_of_lt_of_le (by decide) hn) (sM_0 hT) rfl 11 (by decide) (htg _ q_984) (fun _ h9 => h9) rfl (by decide +kernel) rfl rfl (Nat.le_of_ble_eq_true rfl) (hT.up 0 (by decide) ⟨rfl, (fM_0_7 hT), (fM_0_9 hT), (rg_w (rg_add (lo := 1) (hi := 16) h9 (rg_c (v := 1) (lo := 1) (hi := 1) (by decide)) (by decide)) (by decide)), (fM_0_13 hT), (fM_0_15 hT), (fM_0_21 hT), (fM_0_23 hT)⟩) (fr_fd hF (sM_0 hT) (by decide)) dX7_bridgeTold_131 (fun C_53 H locs e_54 hT hF hP hD hS => ?_)
              have t_55 := hT
              refine lv_iconst (v := 1) hx hb dX7_bridgeTold_134 (by decide) ?_
              have : (gi (C_43 0) 7).toInt = (gi (C_35 0) 7).toInt := congrArg (fun z => (vi z).toInt) (f_45.2 7 (by decide))
              have : (gi (C_43 0) 13).toInt = (gi (C_35 0) 13).toInt := congrArg (fun z => (vi z).toInt) (f_45.2 13 (by decide))
              have : (gi (C_53 0) 21).toInt = (gi (C_43 0) 21).toInt := congrArg Int32.toInt (show gi (C_53 0) 21 = gi (C_43 0) 21 by rw [e_54]; rfl)
              have : (gi (C_53 0) 7).toInt = (gi (C_43 0) 7).toInt := congrArg Int32.toInt (show gi (C_53 0) 7 = gi (C_43 0) 7 by rw [e_54]; rfl)
              have : (gi (C_53 0) 23).toInt = (gi (C_43 0) 23).toInt := congrArg Int32.toInt (show gi (C_53 0) 23 = gi (C_43 0) 23 by rw [e_54]; rfl)
              have : (gi (C_53 0) 13).toInt = (gi (C_43 0) 13).toInt := congrArg Int32.toInt (show gi (C_53 0) 13 = gi (C_43 0) 13 by rw [e_54]; rfl)
              have : 0 ≤ (gi (C_43 0) 21).toInt ∧ (gi (C_43 0) 21).toInt ≤ 250 := fM_0_21 t_46
              have : 0 ≤ (gi (C_43 0) 7).toInt ∧ (gi (C_43 0) 7).toInt ≤ 250 := fM_0_7 t_46
              have : 0 ≤ (gi (C_43 0) 23).toInt ∧ (gi (C_43 0) 23).toInt ≤ 250 := fM_0_23 t_46
              have : 0 ≤ (gi (C_43 0) 13).toInt ∧ (gi (C_43 0) 13).toInt ≤ 5 := fM_0_13 t_46
              have : 0 ≤ (gi (C_53 0) 21).toInt ∧ (gi (C_53 0) 21).toInt ≤ 250 := fM_0_21 t_55
              have : 0 ≤ (gi (C_53 0) 7).toInt ∧ (gi (C_53 0) 7).toInt ≤ 250 := fM_0_7 t_55
              have : 0 ≤ (gi (C_53 0) 23).toInt ∧ (gi (C_53 0) 23).toInt ≤ 250 := fM_0_23 t_55
              have : 0 ≤ (gi (C_53 0) 13).toInt ∧ (gi (C_53 0) 13).toInt ≤ 5 := fM_0_13 t_55
              rw [hQ]
              exact W.zret (v := 1) (ty := .boolean) hx hb hr (by decide) (fun t ht hW => ⟨⟨1, C_53, rfl, ⟨hT, hF, ⟨(Or.inr rfl), ⟨(by omega), (by omega)⟩⟩⟩, ⟨by rw [ht]; exact hP, hD⟩⟩, hS.F ht⟩) hS.2.2 dX7_bridgeTold_135
            · have u_56 := hq_51.2 c_52
              refine lv_aload_n hx hb dX7_bridgeTold_93 rfl (lv_at hl 0 rfl) ?_
              refine va_ldcS hx hb hown (hG.2.2.1 ("OneHeavyLoadModel", 238, "prop", 30) (List.mem_of_getElem? (i := 27) rfl)) dX7_bridgeTold_94 ?_
              refine lv_aload_n hx hb dX7_bridgeTold_96 rfl (lv_at hl 1 rfl) ?_
              refine lv_iconst (v := 5) hx hb dX7_bridgeTold_97 (by decide) ?_
              refine lv_iconst (v := 0) hx hb dX7_bridgeTold_98 (by decide) ?_
              refine lv_sipush (v := 999) hx hb dX7_bridgeTold_99 (by decide) ?_
              have : (gi (C_43 0) 7).toInt = (gi (C_35 0) 7).toInt := congrArg (fun z => (vi z).toInt) (f_45.2 7 (by decide))
              have : (gi (C_43 0) 13).toInt = (gi (C_35 0) 13).toInt := congrArg (fun z => (vi z).toInt) (f_45.2 13 (by decide))
              have : 0 ≤ (gi (C_43 0) 21).toInt ∧ (gi (C_43 0) 21).toInt ≤ 250 := fM_0_21 t_46
              have : 0 ≤ (gi (C_43 0) 7).toInt ∧ (gi (C_43 0) 7).toInt ≤ 250 := fM_0_7 t_46
              have : 0 ≤ (gi (C_43 0) 23).toInt ∧ (gi (C_43 0) 23).toInt ≤ 250 := fM_0_23 t_46
              have : 0 ≤ (gi (C_43 0) 13).toInt ∧ (gi (C_43 0) 13).toInt ≤ 5 := fM_0_13 t_46
              refine tm_V (As := [.ref (G (3 + 27)), .ref (a (48 + (gi (C 0) 11).toNatClampNeg)), .int 5, .int 0, .int 999]) (rest := []) ⟨hx, hb, hml, hown, htg⟩ (c_X7_told l D E G _ a C_43 n hn hT 27 (48 + (gi (C 0) 11).toNatClampNeg) (5 : Int32) (0 : Int32) (999 : Int32) (by decide) ⟨(lt_blk hb0 hn (by decide)), (by omega), 10, fun C h => (h.bbridge hb0).1, (rg_in (rg_c (v := 5) (lo := 5) (hi := 5) (by decide)) (by decide)), fun C v h h1 h2 => (h.upbridge hb0 (tA_upd (h.bbridge hb0) tA_any))⟩ (by omega)) (cwV 5 htg (oh_gV q_1234 q_1236 q_45 q_73 q_1237) rfl rfl rfl pdVX7_told ⟨Nat.le_of_ble_eq_true rfl, Nat.le_of_ble_eq_true rfl⟩) hK hP hD hG hS hA (va_recv hK hP (ci := 7) (q0 := 0) rfl (oh_wg (Nat.lt_of_lt_of_le (by decide) hn) (sM_0 hT))) rfl hl.1 rfl (Nat.le_of_ble_eq_true rfl) dX7_bridgeTold_102 ⟨Nat.le_of_ble_eq_true rfl, Nat.le_of_ble_eq_true rfl⟩ (fun r_57 C_58 H locs hq_59 hP hD hS => ?_)
              obtain ⟨hT, f_60, hq_59⟩ := hq_59
              have hF := fr_trk hF f_60 (inR_of (p := (48, 64)) (by decide) (by show 48 ≤ _; omega) (by show _ < 64; omega)) (by decide)
              refine W.widen (k := 0) (n := 0) (Nat.le_refl _) (Nat.le_refl _) ?_
              have t_61 := hT
              refine lv_if_eq (tgt := 122) hx hb dX7_bridgeTold_105 (by decide) (fun (c_62 : r_57 = 0) => ?_) (fun (c_62 : ¬ (r_57 = 0)) => ?_)
              · refine lv_iconst (v := 0) hx hb dX7_bridgeTold_122 (by decide) ?_
                have : (gi (C_58 0) 7).toInt = (gi (C_43 0) 7).toInt := congrArg (fun z => (vi z).toInt) (f_60.2 7 (by decide))
                have : (gi (C_58 0) 13).toInt = (gi (C_43 0) 13).toInt := congrArg (fun z => (vi z).toInt) (f_60.2 13 (by decide))
                have : 0 ≤ (gi (C_58 0) 21).toInt ∧ (gi (C_58 0) 21).toInt ≤ 250 := fM_0_21 t_61
                have : 0 ≤ (gi (C_58 0) 7).toInt ∧ (gi (C_58 0) 7).toInt ≤ 250 := fM_0_7 t_61
                have : 0 ≤ (gi (C_58 0) 23).toInt ∧ (gi (C_58 0) 23).toInt ≤ 250 := fM_0_23 t_61
                have : 0 ≤ (gi (C_58 0) 13).toInt ∧ (gi (C_58 0) 13).toInt ≤ 5 := fM_0_13 t_61
                rw [hQ]
                exact W.zret (v := 0) (ty := .boolean) hx hb hr (by decide) (fun t ht hW => ⟨⟨0, C_58, rfl, ⟨hT, hF, ⟨(Or.inl rfl), ⟨(by omega), hq_59.2.1.2⟩⟩⟩, ⟨by rw [ht]; exact hP, hD⟩⟩, hS.F ht⟩) hS.2.2 dX7_bridgeTold_123
              · have u_63 := hq_59.2.2.2.1 c_62
                have u_64 := hq_59.2.2.2.2 c_62
                refine lv_aload_n hx hb dX7_bridgeTold_108 rfl (lv_at hl 0 rfl) ?_
                refine lv_aload_n hx hb dX7_bridgeTold_109 rfl (lv_at hl 1 rfl) ?_
                refine lv_bipush (v := 6) hx hb dX7_bridgeTold_110 (by decide) ?_
                refine lv_iconst (v := 0) hx hb dX7_bridgeTold_112 (by decide) ?_
                refine lv_sipush (v := 999) hx hb dX7_bridgeTold_113 (by decide) ?_
                have : (gi (C_58 0) 7).toInt = (gi (C_43 0) 7).toInt := congrArg (fun z => (vi z).toInt) (f_60.2 7 (by decide))
                have : (gi (C_58 0) 13).toInt = (gi (C_43 0) 13).toInt := congrArg (fun z => (vi z).toInt) (f_60.2 13 (by decide))
                have : 0 ≤ (gi (C_58 0) 21).toInt ∧ (gi (C_58 0) 21).toInt ≤ 250 := fM_0_21 t_61
                have : 0 ≤ (gi (C_58 0) 7).toInt ∧ (gi (C_58 0) 7).toInt ≤ 250 := fM_0_7 t_61
                have : 0 ≤ (gi (C_58 0) 23).toInt ∧ (gi (C_58 0) 23).toInt ≤ 250 := fM_0_23 t_61
                have : 0 ≤ (gi (C_58 0) 13).toInt ∧ (gi (C_58 0) 13).toInt ≤ 5 := fM_0_13 t_61
                refine tm_V (As := [.ref (a (48 + (gi (C 0) 11).toNatClampNeg)), .int 6, .int 0, .int 999]) (rest := []) ⟨hx, hb, hml, hown, htg⟩ (c_X7_number l D E G _ a C_58 n hn hT (48 + (gi (C 0) 11).toNatClampNeg) (6 : Int32) (0 : Int32) (999 : Int32) ⟨(lt_blk hb0 hn (by decide)), (by omega), 10, fun C h => (h.bbridge hb0).1, (rg_in (rg_c (v := 6) (lo := 6) (hi := 6) (by decide)) (by decide)), fun C v h h1 h2 => (h.upbridge hb0 (tA_upd (h.bbridge hb0) tA_any))⟩ (by omega)) (cwV 4 htg (oh_gV q_1225 q_1227 q_43 q_73 q_1228) rfl rfl rfl pdVX7_number ⟨Nat.le_of_ble_eq_true rfl, Nat.le_of_ble_eq_true rfl⟩) hK hP hD hG hS hA (va_recv hK hP (ci := 7) (q0 := 0) rfl (oh_wg (Nat.lt_of_lt_of_le (by decide) hn) (sM_0 hT))) rfl hl.1 rfl (Nat.le_of_ble_eq_true rfl) dX7_bridgeTold_116 ⟨Nat.le_of_ble_eq_true rfl, Nat.le_of_ble_eq_true rfl⟩ (fun r_65 C_66 H locs hq_67 hP hD hS => ?_)
                obtain ⟨hT, f_68, hq_67⟩ := hq_67
                have hF := fr_trk hF f_68 (inR_of (p := (48, 64)) (by decide) (by show 48 ≤ _; omega) (by show _ < 64; omega)) (by decide)
                refine W.widen (k := 0) (n := 0) (Nat.le_refl _) (Nat.le_refl _) ?_
                have t_69 := hT
                refine lv_if_ne (tgt := 124) hx hb dX7_bridgeTold_119 (by decide) (fun (c_70 : ¬ (r_65 = 0)) => ?_) (fun (c_70 : r_65 = 0) => ?_)
                · have u_71 := hq_67.2.2.2 c_70
                  refine lv_aload_n hx hb dX7_bridgeTold_124 rfl (lv_at hl 0 rfl) ?_
                  refine lv_dup hx hb dX7_bridgeTold_125 rfl ?_
                  refine va_get (D := D) (ci := 7) (v := .int (gi (C 0) 11)) (C := RX7) (T := TX7) (N := 29) hx hb htg ig_7 hown hK hP 0 (oh_wg (Nat.lt_of_lt_of_le (by decide) hn) (sM_0 hT)) rfl 11 (by decide) (htg _ q_984) (fun _ h9 => h9) (oh_fv (c := C_66 0) (j := 11) rfl (Eq.trans (congrArg vi (f_68.2 11 (by decide))) (Eq.trans (congrArg vi (f_60.2 11 (by decide))) (Eq.trans (congrArg vi (f_45.2 11 (by decide))) (Eq.trans (congrArg vi (f_37.2 11 (by decide))) (Eq.trans (congrArg vi (f_29.2 11 (by decide))) (Eq.trans (congrArg vi (f_21.2 11 (by decide))) (Eq.trans (congrArg vi (f_14.2 11 (by decide))) (Eq.trans (congrArg vi (f_9.2 11 (by decide))) (congrArg vi (f_4.2 11 (by decide)))))))))))) dX7_bridgeTold_126 ?_
                  refine lv_iconst (v := 1) hx hb dX7_bridgeTold_129 (by decide) ?_
                  refine lv_iadd hx hb dX7_bridgeTold_130 ?_
                  refine th_put (Tp := TyM a E) (Rl := fr [(48, 64)] [11, 21, 22, 23, 24, 25] C) (ci := 7) (v := .int ((gi (C 0) 11) + 1)) (ty := .int) (CC := RX7) (T := TX7) (N := 29) hx hb htg ig_7 tyX7 tyX7_ok nmX7 hown hK hP hD hS 0 (Nat.lt_of_lt_of_le (by decide) hn) (sM_0 hT) rfl 11 (by decide) (htg _ q_984) (fun _ h9 => h9) rfl (by decide +kernel) rfl rfl (Nat.le_of_ble_eq_true rfl) (hT.up 0 (by decide) ⟨rfl, (fM_0_7 hT), (fM_0_9 hT), (rg_w (rg_add (lo := 1) (hi := 16) h9 (rg_c (v := 1) (lo := 1) (hi := 1) (by decide)) (by decide)) (by decide)), (fM_0_13 hT), (fM_0_15 hT), (fM_0_21 hT), (fM_0_23 hT)⟩) (fr_fd hF (sM_0 hT) (by decide)) dX7_bridgeTold_131 (fun C_72 H locs e_73 hT hF hP hD hS => ?_)
                  have t_74 := hT
                  refine lv_iconst (v := 1) hx hb dX7_bridgeTold_134 (by decide) ?_
                  have : (gi (C_66 0) 7).toInt = (gi (C_58 0) 7).toInt := congrArg (fun z => (vi z).toInt) (f_68.2 7 (by decide))
                  have : (gi (C_66 0) 13).toInt = (gi (C_58 0) 13).toInt := congrArg (fun z => (vi z).toInt) (f_68.2 13 (by decide))
                  have : (gi (C_72 0) 21).toInt = (gi (C_66 0) 21).toInt := congrArg Int32.toInt (show gi (C_72 0) 21 = gi (C_66 0) 21 by rw [e_73]; rfl)
                  have : (gi (C_72 0) 7).toInt = (gi (C_66 0) 7).toInt := congrArg Int32.toInt (show gi (C_72 0) 7 = gi (C_66 0) 7 by rw [e_73]; rfl)
                  have : (gi (C_72 0) 23).toInt = (gi (C_66 0) 23).toInt := congrArg Int32.toInt (show gi (C_72 0) 23 = gi (C_66 0) 23 by rw [e_73]; rfl)
                  have : (gi (C_72 0) 13).toInt = (gi (C_66 0) 13).toInt := congrArg Int32.toInt (show gi (C_72 0) 13 = gi (C_66 0) 13 by rw [e_73]; rfl)
                  have : 0 ≤ (gi (C_66 0) 21).toInt ∧ (gi (C_66 0) 21).toInt ≤ 250 := fM_0_21 t_69
                  have : 0 ≤ (gi (C_66 0) 7).toInt ∧ (gi (C_66 0) 7).toInt ≤ 250 := fM_0_7 t_69
                  have : 0 ≤ (gi (C_66 0) 23).toInt ∧ (gi (C_66 0) 23).toInt ≤ 250 := fM_0_23 t_69
                  have : 0 ≤ (gi (C_66 0) 13).toInt ∧ (gi (C_66 0) 13).toInt ≤ 5 := fM_0_13 t_69
                  have : 0 ≤ (gi (C_72 0) 21).toInt ∧ (gi (C_72 0) 21).toInt ≤ 250 := fM_0_21 t_74
                  have : 0 ≤ (gi (C_72 0) 7).toInt ∧ (gi (C_72 0) 7).toInt ≤ 250 := fM_0_7 t_74
                  have : 0 ≤ (gi (C_72 0) 23).toInt ∧ (gi (C_72 0) 23).toInt ≤ 250 := fM_0_23 t_74
                  have : 0 ≤ (gi (C_72 0) 13).toInt ∧ (gi (C_72 0) 13).toInt ≤ 5 := fM_0_13 t_74
                  rw [hQ]
                  exact W.zret (v := 1) (ty := .boolean) hx hb hr (by decide) (fun t ht hW => ⟨⟨1, C_72, rfl, ⟨hT, hF, ⟨(Or.inr rfl), ⟨(by omega), (by omega)⟩⟩⟩, ⟨by rw [ht]; exact hP, hD⟩⟩, hS.F ht⟩) hS.2.2 dX7_bridgeTold_135
                · refine lv_iconst (v := 0) hx hb dX7_bridgeTold_122 (by decide) ?_
                  have : (gi (C_66 0) 7).toInt = (gi (C_58 0) 7).toInt := congrArg (fun z => (vi z).toInt) (f_68.2 7 (by decide))
                  have : (gi (C_66 0) 13).toInt = (gi (C_58 0) 13).toInt := congrArg (fun z => (vi z).toInt) (f_68.2 13 (by decide))
                  have : 0 ≤ (gi (C_66 0) 21).toInt ∧ (gi (C_66 0) 21).toInt ≤ 250 := fM_0_21 t_69
                  have : 0 ≤ (gi (C_66 0) 7).toInt ∧ (gi (C_66 0) 7).toInt ≤ 250 := fM_0_7 t_69
                  have : 0 ≤ (gi (C_66 0) 23).toInt ∧ (gi (C_66 0) 23).toInt ≤ 250 := fM_0_23 t_69
                  have : 0 ≤ (gi (C_66 0) 13).toInt ∧ (gi (C_66 0) 13).toInt ≤ 5 := fM_0_13 t_69
                  rw [hQ]
                  exact W.zret (v := 0) (ty := .boolean) hx hb hr (by decide) (fun t ht hW => ⟨⟨0, C_66, rfl, ⟨hT, hF, ⟨(Or.inl rfl), ⟨(by omega), hq_67.2.1.2⟩⟩⟩, ⟨by rw [ht]; exact hP, hD⟩⟩, hS.F ht⟩) hS.2.2 dX7_bridgeTold_123
          · refine lv_iconst (v := 0) hx hb dX7_bridgeTold_82 (by decide) ?_
            have : (gi (C_43 0) 7).toInt = (gi (C_35 0) 7).toInt := congrArg (fun z => (vi z).toInt) (f_45.2 7 (by decide))
            have : (gi (C_43 0) 13).toInt = (gi (C_35 0) 13).toInt := congrArg (fun z => (vi z).toInt) (f_45.2 13 (by decide))
            have : 0 ≤ (gi (C_43 0) 21).toInt ∧ (gi (C_43 0) 21).toInt ≤ 250 := fM_0_21 t_46
            have : 0 ≤ (gi (C_43 0) 7).toInt ∧ (gi (C_43 0) 7).toInt ≤ 250 := fM_0_7 t_46
            have : 0 ≤ (gi (C_43 0) 23).toInt ∧ (gi (C_43 0) 23).toInt ≤ 250 := fM_0_23 t_46
            have : 0 ≤ (gi (C_43 0) 13).toInt ∧ (gi (C_43 0) 13).toInt ≤ 5 := fM_0_13 t_46
            rw [hQ]
            exact W.zret (v := 0) (ty := .boolean) hx hb hr (by decide) (fun t ht hW => ⟨⟨0, C_43, rfl, ⟨hT, hF, ⟨(Or.inl rfl), ⟨(by omega), hq_44.2.1.2⟩⟩⟩, ⟨by rw [ht]; exact hP, hD⟩⟩, hS.F ht⟩) hS.2.2 dX7_bridgeTold_83
      · refine lv_iconst (v := 0) hx hb dX7_bridgeTold_51 (by decide) ?_
        have : (gi (C_27 0) 7).toInt = (gi (C_19 0) 7).toInt := congrArg (fun z => (vi z).toInt) (f_29.2 7 (by decide))
        have : (gi (C_27 0) 13).toInt = (gi (C_19 0) 13).toInt := congrArg (fun z => (vi z).toInt) (f_29.2 13 (by decide))
        have : 0 ≤ (gi (C_27 0) 21).toInt ∧ (gi (C_27 0) 21).toInt ≤ 250 := fM_0_21 t_30
        have : 0 ≤ (gi (C_27 0) 7).toInt ∧ (gi (C_27 0) 7).toInt ≤ 250 := fM_0_7 t_30
        have : 0 ≤ (gi (C_27 0) 23).toInt ∧ (gi (C_27 0) 23).toInt ≤ 250 := fM_0_23 t_30
        have : 0 ≤ (gi (C_27 0) 13).toInt ∧ (gi (C_27 0) 13).toInt ≤ 5 := fM_0_13 t_30
        rw [hQ]
        exact W.zret (v := 0) (ty := .boolean) hx hb hr (by decide) (fun t ht hW => ⟨⟨0, C_27, rfl, ⟨hT, hF, ⟨(Or.inl rfl), ⟨(by omega), hq_28.2.1.2⟩⟩⟩, ⟨by rw [ht]; exact hP, hD⟩⟩, hS.F ht⟩) hS.2.2 dX7_bridgeTold_52
