set_option maxHeartbeats 4000000 in
set_option maxRecDepth 100000 in
theorem e_X7_hang (l : Launch) (D : va_G) (E : Nat → ClassId) (G : Nat → Nat) (sz : Nat) (a : Nat → Nat) (C : Nat → va_E) (n : Nat) (hn : 74 ≤ n) (hT : TyM a E C) (x1 : Int32) (x2 : Int32) (x3 : Int32) (x4 : Int32) (hR : RelM C) : Met l yX7_hang (oh_w yX7_hang cX7_hang 13 (some .int)) ({ frames := 7, cells := 0, slots := 0, locals := 177 }) (oh_Pm D E G [.ref (a 0), .int x1, .int x2, .int x3, .int x4] (oh_W n a C) sz) (va_Qi (fun r (u : Nat → va_E) => TyM a E u ∧ fr [(8, 9), (15, 16), (48, 64)] [] C u ∧ (RelM u) ∧ (∀ A : LA, absM C A → absM u A)) (oh_B D (va_A (oh_W n a C) sz) (fun u => oh_W n a u)) (va_A (oh_W n a C) sz)) 0 0 (va_A (oh_W n a C) sz) := by
  refine Met.ofW (cc := cX7_hang) (maxL := 13) (ret := (some .int)) (by decide) rfl ?_
  intro p e s m args below meth c s₁ B hml hv
  obtain ⟨rfl, hsz, hP, hK, hD0, hG⟩ := hv
  have hx := B.exec
  have hb := B.bytes
  have hr := B.returns
  have hts := atoms_spec (ws := (oh_w yX7_hang cX7_hang 13 (some .int))) B.pre
  have htg : ∀ w ∈ oh_t, w.before _ s = true := fun w h => hts w (List.mem_cons_of_mem _ h)
  have hown : s.vm.findClass RX7 = some m.cls := findClass_of_methodNamed B.named
  have hlocks := B.notSynchronized
  have hT0 := hT
  subst hsz
  have hD := hD0.self (sz := s.heap.size)
  generalize hAe : va_A (oh_W n a C) s.heap.size = A at hD hG ⊢
  have hA : ∀ q : Nat, s.heap.size ≤ q → A q := fun q h => by rw [← hAe]; exact Or.inr h
  have hS : va_S A s.heap s.heap [] := va_S.rf
  have hF : fr [(8, 9), (15, 16), (48, 64)] [] C C := fr_rf
  have hl := lv_entry ([.ref (a 0), .int x1, .int x2, .int x3, .int x4]) (n := 13) (Nat.le_of_ble_eq_true rfl)
  rw [lg_entry_eq]
  generalize (lg_sl ([.ref (a 0), .int x1, .int x2, .int x3, .int x4]) ++ List.replicate (13 - (lg_sl ([.ref (a 0), .int x1, .int x2, .int x3, .int x4])).length) Slot.unset).toArray = ls at hl ⊢
  have hl : lv_has ls 13 [(0, .ref (a 0)), (1, .int x1), (2, .int x2), (3, .int x3), (4, .int x4)] := hl
  refine oh_genQ (fun Q hQ => ?_)
  refine lv_aload_n hx hb dX7_hang_0 rfl (lv_at hl 0 rfl) ?_
  refine lv_iload_n hx hb dX7_hang_1 rfl (lv_at hl 1 rfl) ?_
  refine lv_iload_n hx hb dX7_hang_2 rfl (lv_at hl 2 rfl) ?_
  refine tq_V (As := [.int x1, .int x2]) (rest := []) (ws := (oh_W n a C)) ⟨hx, hb, hml, hown, htg⟩ (c_X7_isPack l D E G a C n hn hT x1 x2 hR.1) (cwV 2 htg (oh_gV q_1290 q_1292 q_50 q_73 q_1293) rfl rfl rfl pdVX7_isPack ⟨Nat.le_of_ble_eq_true rfl, Nat.le_of_ble_eq_true rfl⟩) hK hP hG hS (va_recv hK hP (ci := 7) (q0 := 0) rfl (oh_wg (Nat.lt_of_lt_of_le (by decide) hn) (sM_0 hT))) rfl hl.1 rfl (Nat.le_of_ble_eq_true rfl) dX7_hang_3 ⟨Nat.le_of_ble_eq_true rfl, Nat.le_of_ble_eq_true rfl⟩ (fun r_1 hq_2 => ?_)
  refine lv_if_eq (tgt := 24) hx hb dX7_hang_6 (by decide) (fun (c_3 : r_1 = 0) => ?_) (fun (c_3 : ¬ (r_1 = 0)) => ?_)
  · refine lv_aload_n hx hb dX7_hang_24 rfl (lv_at hl 0 rfl) ?_
    refine lv_bipush (v := (-2)) hx hb dX7_hang_25 (by decide) ?_
    refine tm_V (As := [.int (-2)]) (rest := []) ⟨hx, hb, hml, hown, htg⟩ (c_X7_refuse l D E G _ a C n hn hT ((-2) : Int32) (rg_w (rg_c (v := (-2)) (lo := (-2)) (hi := (-2)) (by decide)) (by decide))) (cwV 1 htg (oh_gV q_1071 q_1073 q_29 q_73 q_1074) rfl rfl rfl pdVX7_refuse ⟨Nat.le_of_ble_eq_true rfl, Nat.le_of_ble_eq_true rfl⟩) hK hP hD hG hS hA (va_recv hK hP (ci := 7) (q0 := 0) rfl (oh_wg (Nat.lt_of_lt_of_le (by decide) hn) (sM_0 hT))) rfl hl.1 rfl (Nat.le_of_ble_eq_true rfl) dX7_hang_27 ⟨Nat.le_of_ble_eq_true rfl, Nat.le_of_ble_eq_true rfl⟩ (fun r_4 C_5 H locs hq_6 hP hD hS => ?_)
    obtain ⟨hT, f_7, hq_6⟩ := hq_6
    have hF := fr_tr hF f_7 (by decide) (by decide)
    refine W.widen (k := 0) (n := 0) (Nat.le_refl _) (Nat.le_refl _) ?_
    have t_8 := hT
    rw [hQ]
    exact W.iret (v := r_4) hx hb hr (fun t ht hW => ⟨⟨r_4, C_5, rfl, ⟨hT, hF, ⟨⟨hR.1.fr hF (by decide), hR.2.fr hF (by decide)⟩, (fun A hA => by have h1 := hA; have h2 := absM_fr h1 hT0 (show fr [(8, 9)] [] C C_5 from (fr_tr fr_rf f_7 (by decide) (by decide))) (by decide) (by decide) (by decide); exact h2)⟩⟩, ⟨by rw [ht]; exact hP, hD⟩⟩, hS.F ht⟩) hS.2.2 dX7_hang_30
  · have u_9 := hq_2.2 c_3
    refine lv_iload_n hx hb dX7_hang_9 rfl (lv_at hl 3 rfl) ?_
    refine tq_S (As := [.int x3]) (rest := []) (ws := []) ⟨hx, hb, hml, hown, htg⟩ (e_X7_isPlace l D E G x3) (va_cwS 1 htg (oh_gS q_1130 q_1131 q_73 q_1132) rfl rfl rfl pdX7_isPlace ⟨Nat.le_of_ble_eq_true rfl, Nat.le_of_ble_eq_true rfl⟩) hK va_nil hG hS rfl hl.1 rfl (Nat.le_of_ble_eq_true rfl) dX7_hang_10 ⟨Nat.le_of_ble_eq_true rfl, Nat.le_of_ble_eq_true rfl⟩ (fun r_10 hq_11 => ?_)
    refine lv_if_eq (tgt := 24) hx hb dX7_hang_13 (by decide) (fun (c_12 : r_10 = 0) => ?_) (fun (c_12 : ¬ (r_10 = 0)) => ?_)
    · have u_13 := hq_11.2.2 c_12
      refine lv_aload_n hx hb dX7_hang_24 rfl (lv_at hl 0 rfl) ?_
      refine lv_bipush (v := (-2)) hx hb dX7_hang_25 (by decide) ?_
      refine tm_V (As := [.int (-2)]) (rest := []) ⟨hx, hb, hml, hown, htg⟩ (c_X7_refuse l D E G _ a C n hn hT ((-2) : Int32) (rg_w (rg_c (v := (-2)) (lo := (-2)) (hi := (-2)) (by decide)) (by decide))) (cwV 1 htg (oh_gV q_1071 q_1073 q_29 q_73 q_1074) rfl rfl rfl pdVX7_refuse ⟨Nat.le_of_ble_eq_true rfl, Nat.le_of_ble_eq_true rfl⟩) hK hP hD hG hS hA (va_recv hK hP (ci := 7) (q0 := 0) rfl (oh_wg (Nat.lt_of_lt_of_le (by decide) hn) (sM_0 hT))) rfl hl.1 rfl (Nat.le_of_ble_eq_true rfl) dX7_hang_27 ⟨Nat.le_of_ble_eq_true rfl, Nat.le_of_ble_eq_true rfl⟩ (fun r_14 C_15 H locs hq_16 hP hD hS => ?_)
      obtain ⟨hT, f_17, hq_16⟩ := hq_16
      have hF := fr_tr hF f_17 (by decide) (by decide)
      refine W.widen (k := 0) (n := 0) (Nat.le_refl _) (Nat.le_refl _) ?_
      have t_18 := hT
      rw [hQ]
      exact W.iret (v := r_14) hx hb hr (fun t ht hW => ⟨⟨r_14, C_15, rfl, ⟨hT, hF, ⟨⟨hR.1.fr hF (by decide), hR.2.fr hF (by decide)⟩, (fun A hA => by have h1 := hA; have h2 := absM_fr h1 hT0 (show fr [(8, 9)] [] C C_15 from (fr_tr fr_rf f_17 (by decide) (by decide))) (by decide) (by decide) (by decide); exact h2)⟩⟩, ⟨by rw [ht]; exact hP, hD⟩⟩, hS.F ht⟩) hS.2.2 dX7_hang_30
    · have u_19 := hq_11.2.1 c_12
      refine lv_iload hx hb dX7_hang_16 (lv_at hl 4 rfl) ?_
      refine tq_S (As := [.int x4]) (rest := []) (ws := []) ⟨hx, hb, hml, hown, htg⟩ (e_X7_isPlace l D E G x4) (va_cwS 1 htg (oh_gS q_1130 q_1131 q_73 q_1132) rfl rfl rfl pdX7_isPlace ⟨Nat.le_of_ble_eq_true rfl, Nat.le_of_ble_eq_true rfl⟩) hK va_nil hG hS rfl hl.1 rfl (Nat.le_of_ble_eq_true rfl) dX7_hang_18 ⟨Nat.le_of_ble_eq_true rfl, Nat.le_of_ble_eq_true rfl⟩ (fun r_20 hq_21 => ?_)
      refine lv_if_ne (tgt := 31) hx hb dX7_hang_21 (by decide) (fun (c_22 : ¬ (r_20 = 0)) => ?_) (fun (c_22 : r_20 = 0) => ?_)
      · have u_23 := hq_21.2.1 c_22
        refine lv_aload_n hx hb dX7_hang_31 rfl (lv_at hl 0 rfl) ?_
        refine va_get (D := D) (ci := 7) (v := .int (gi (C 0) 11)) (C := RX7) (T := TX7) (N := 29) hx hb htg ig_7 hown hK hP 0 (oh_wg (Nat.lt_of_lt_of_le (by decide) hn) (sM_0 hT)) rfl 11 (by decide) (htg _ q_984) (fun _ h9 => h9) rfl dX7_hang_32 ?_
        refine lv_if_eq (tgt := 52) hx hb dX7_hang_35 (by decide) (fun (c_24 : (gi (C 0) 11) = 0) => ?_) (fun (c_24 : ¬ ((gi (C 0) 11) = 0)) => ?_)
        · refine lv_aload_n hx hb dX7_hang_52 rfl (lv_at hl 0 rfl) ?_
          refine lv_bipush (v := (-5)) hx hb dX7_hang_53 (by decide) ?_
          refine tm_V (As := [.int (-5)]) (rest := []) ⟨hx, hb, hml, hown, htg⟩ (c_X7_refuse l D E G _ a C n hn hT ((-5) : Int32) (rg_w (rg_c (v := (-5)) (lo := (-5)) (hi := (-5)) (by decide)) (by decide))) (cwV 1 htg (oh_gV q_1071 q_1073 q_29 q_73 q_1074) rfl rfl rfl pdVX7_refuse ⟨Nat.le_of_ble_eq_true rfl, Nat.le_of_ble_eq_true rfl⟩) hK hP hD hG hS hA (va_recv hK hP (ci := 7) (q0 := 0) rfl (oh_wg (Nat.lt_of_lt_of_le (by decide) hn) (sM_0 hT))) rfl hl.1 rfl (Nat.le_of_ble_eq_true rfl) dX7_hang_55 ⟨Nat.le_of_ble_eq_true rfl, Nat.le_of_ble_eq_true rfl⟩ (fun r_25 C_26 H locs hq_27 hP hD hS => ?_)
          obtain ⟨hT, f_28, hq_27⟩ := hq_27
          have hF := fr_tr hF f_28 (by decide) (by decide)
          refine W.widen (k := 0) (n := 0) (Nat.le_refl _) (Nat.le_refl _) ?_
          have t_29 := hT
          rw [hQ]
          exact W.iret (v := r_25) hx hb hr (fun t ht hW => ⟨⟨r_25, C_26, rfl, ⟨hT, hF, ⟨⟨hR.1.fr hF (by decide), hR.2.fr hF (by decide)⟩, (fun A hA => by have h1 := hA; have h2 := absM_fr h1 hT0 (show fr [(8, 9)] [] C C_26 from (fr_tr fr_rf f_28 (by decide) (by decide))) (by decide) (by decide) (by decide); exact h2)⟩⟩, ⟨by rw [ht]; exact hP, hD⟩⟩, hS.F ht⟩) hS.2.2 dX7_hang_58
        · refine lv_aload_n hx hb dX7_hang_38 rfl (lv_at hl 0 rfl) ?_
          refine lv_iload_n hx hb dX7_hang_39 rfl (lv_at hl 1 rfl) ?_
          refine lv_iload_n hx hb dX7_hang_40 rfl (lv_at hl 2 rfl) ?_
          refine lv_iload_n hx hb dX7_hang_41 rfl (lv_at hl 3 rfl) ?_
          refine lv_iload hx hb dX7_hang_42 (lv_at hl 4 rfl) ?_
          refine lv_iconst (v := 1) hx hb dX7_hang_44 (by decide) ?_
          refine tm_V (As := [.int x1, .int x2, .int x3, .int x4, .int 1]) (rest := []) ⟨hx, hb, hml, hown, htg⟩ (c_X7_cheapestOf l D E G _ a C n hn hT x1 x2 x3 x4 (1 : Int32) (rg_w u_9.1 (by decide)) (rg_w u_19 (by decide)) (rg_w u_23 (by decide)) u_9.2.1) (cwV 5 htg (oh_gV q_1347 q_1349 q_59 q_73 q_1350) rfl rfl rfl pdVX7_cheapestOf ⟨Nat.le_of_ble_eq_true rfl, Nat.le_of_ble_eq_true rfl⟩) hK hP hD hG hS hA (va_recv hK hP (ci := 7) (q0 := 0) rfl (oh_wg (Nat.lt_of_lt_of_le (by decide) hn) (sM_0 hT))) rfl hl.1 rfl (Nat.le_of_ble_eq_true rfl) dX7_hang_45 ⟨Nat.le_of_ble_eq_true rfl, Nat.le_of_ble_eq_true rfl⟩ (fun r_30 C_31 H locs hq_32 hP hD hS => ?_)
          obtain ⟨hT, f_33, hq_32⟩ := hq_32
          have hF := fr_tr hF f_33 (by decide) (by decide)
          refine W.widen (k := 0) (n := 0) (Nat.le_refl _) (Nat.le_refl _) ?_
          have t_34 := hT
          refine lv_iconst (v := (-1)) hx hb dX7_hang_48 (by decide) ?_
          refine lv_icmp_ne (tgt := 59) hx hb dX7_hang_49 (by decide) (fun (c_35 : ¬ (r_30 = (-1))) => ?_) (fun (c_35 : r_30 = (-1)) => ?_)
          · refine lv_iconst (v := (-1)) hx hb dX7_hang_59 (by decide) ?_
            refine lv_istore (lv' := [(5, .int (-1)), (0, .ref (a 0)), (1, .int x1), (2, .int x2), (3, .int x3), (4, .int x4)]) hx hb dX7_hang_60 hl (by decide) rfl (fun ls hl => ?_)
            refine lv_lconst (v := 0) hx hb dX7_hang_62 (by decide) ?_
            refine lv_lstore (lv' := [(6, .long 0), (5, .int (-1)), (0, .ref (a 0)), (1, .int x1), (2, .int x2), (3, .int x3), (4, .int x4)]) hx hb dX7_hang_63 hl (by decide) rfl (fun ls hl => ?_)
            refine lv_iconst (v := 0) hx hb dX7_hang_65 (by decide) ?_
            refine lv_istore (lv' := [(8, .int 0), (6, .long 0), (5, .int (-1)), (0, .ref (a 0)), (1, .int x1), (2, .int x2), (3, .int x3), (4, .int x4)]) hx hb dX7_hang_66 hl (by decide) rfl (fun ls hl => ?_)
            have L_68 : ∀ (d : Nat) (K68 : Nat → va_E) (z68_8 : Int32) (z68_6 : Int64) (z68_5 : Int32) (H : Heap) (locs : List Loc) (ls : Array Slot), (16 - z68_8.toInt).toNat = d → rg z68_8 0 16 → (∀ A : LA, absM C A → absM K68 A) → TyM a E K68 → fr [(8, 9), (15, 16), (48, 64)] [] C K68 → fr [(15, 16), (48, 64)] [] C_31 K68 → va_P D vwCl (oh_W n a K68) H → va_D A (oh_W n a K68) → va_S A s.heap H locs → lv_has ls 13 [(8, .int z68_8), (6, .long z68_6), (5, .int z68_5), (0, .ref (a 0)), (1, .int x1), (2, .int x2), (3, .int x3), (4, .int x4)] → W p l e ({ frames := 7, cells := 0, slots := 0, locals := 177 }) s m (([.ref (a 0), .int x1, .int x2, .int x3, .int x4] : List Value).toArray) below meth c H locs 0 0 Q (F0 m 68 ls []) := by
              intro d
              induction d using Nat.strongRecOn with
              | ind d ih_68 =>
              intro K68 z68_8 z68_6 z68_5 H locs ls hd_68 hz68_8 hx_68 hT hF hLF_68 hP hD hS hl
              have t_36 := hT
              refine lv_iload hx hb dX7_hang_68 (lv_at hl 0 rfl) ?_
              refine lv_aload_n hx hb dX7_hang_70 rfl (lv_at hl 3 rfl) ?_
              refine va_get (D := D) (ci := 7) (v := .int (gi (C 0) 11)) (C := RX7) (T := TX7) (N := 29) hx hb htg ig_7 hown hK hP 0 (oh_wg (Nat.lt_of_lt_of_le (by decide) hn) (sM_0 hT)) rfl 11 (by decide) (htg _ q_984) (fun _ h9 => h9) (oh_fv (c := K68 0) (j := 11) rfl (Eq.trans (congrArg vi (hLF_68.2 11 (by decide))) (congrArg vi (f_33.2 11 (by decide))))) dX7_hang_71 ?_
              refine lv_icmp_ge (tgt := 169) hx hb dX7_hang_74 (by decide) (fun (c_37 : (gi (C 0) 11) ≤ z68_8) => ?_) (fun (c_37 : ¬ ((gi (C 0) 11) ≤ z68_8)) => ?_)
              · refine lv_iload hx hb dX7_hang_169 (lv_at hl 2 rfl) ?_
                rw [hQ]
                exact W.iret (v := z68_5) hx hb hr (fun t ht hW => ⟨⟨z68_5, K68, rfl, ⟨hT, hF, ⟨⟨hR.1.fr hF (by decide), hR.2.fr hF (by decide)⟩, (fun A hA => by have h1 := (hx_68 A hA); exact h1)⟩⟩, ⟨by rw [ht]; exact hP, hD⟩⟩, hS.F ht⟩) hS.2.2 dX7_hang_171
              · refine lv_aload_n hx hb dX7_hang_77 rfl (lv_at hl 3 rfl) ?_
                refine va_get (D := D) (ci := 7) (v := .ref (a 10)) (C := RX7) (T := TX7) (N := 29) hx hb htg ig_7 hown hK hP 0 (oh_wg (Nat.lt_of_lt_of_le (by decide) hn) (sM_0 hT)) rfl 12 (by decide) (htg _ q_985) (fun _ h9 => h9) rfl dX7_hang_78 ?_
                refine lv_iload hx hb dX7_hang_81 (lv_at hl 0 rfl) ?_
                have n_38 : vp_in z68_8 16 := (rg_in (rn_ltu (u' := 15) (Int32.not_le.mp c_37) hz68_8 (rn_nel (l' := 1) c_24 (fM_0_11 hT0) (rg_c (v := 0) (lo := 0) (hi := 0) (by decide)) (by decide)) (by decide)) (by decide))
                have b_39 : (z68_8).toNatClampNeg < 16 := vp_lt n_38
                refine th_aald hx hb hK hP 10 2 (Nat.lt_of_lt_of_le (by decide) hn) (sM_10 hT) rfl n_38 dX7_hang_83 ?_
                refine lv_bipush (v := 8) hx hb dX7_hang_84 (by decide) ?_
                refine th_iald hx hb hK hP (48 + (z68_8).toNatClampNeg) (lt_blk b_39 hn (by decide)) (hT.bbridge b_39).1 (rg_in (rg_c (v := 8) (lo := 8) (hi := 8) (by decide)) (by decide)) dX7_hang_86 ?_
                refine lv_istore (lv' := [(9, .int (ga (K68 (48 + (z68_8).toNatClampNeg)) ((8 : Int32)).toNatClampNeg)), (8, .int z68_8), (6, .long z68_6), (5, .int z68_5), (0, .ref (a 0)), (1, .int x1), (2, .int x2), (3, .int x3), (4, .int x4)]) hx hb dX7_hang_87 hl (by decide) rfl (fun ls hl => ?_)
                refine lv_aload_n hx hb dX7_hang_89 rfl (lv_at hl 4 rfl) ?_
                refine va_get (D := D) (ci := 7) (v := .ref (a 10)) (C := RX7) (T := TX7) (N := 29) hx hb htg ig_7 hown hK hP 0 (oh_wg (Nat.lt_of_lt_of_le (by decide) hn) (sM_0 hT)) rfl 12 (by decide) (htg _ q_985) (fun _ h9 => h9) rfl dX7_hang_90 ?_
                refine lv_iload hx hb dX7_hang_93 (lv_at hl 1 rfl) ?_
                have n_40 : vp_in z68_8 16 := (rg_in (rn_ltu (u' := 15) (Int32.not_le.mp c_37) hz68_8 (rn_nel (l' := 1) c_24 (fM_0_11 hT0) (rg_c (v := 0) (lo := 0) (hi := 0) (by decide)) (by decide)) (by decide)) (by decide))
                have b_41 : (z68_8).toNatClampNeg < 16 := vp_lt n_40
                refine th_aald hx hb hK hP 10 2 (Nat.lt_of_lt_of_le (by decide) hn) (sM_10 hT) rfl n_40 dX7_hang_95 ?_
                refine lv_bipush (v := 8) hx hb dX7_hang_96 (by decide) ?_
                refine lv_iconst (v := 1) hx hb dX7_hang_98 (by decide) ?_
                refine th_iast (T := TyM a E) (Rl := fr [(8, 9), (15, 16), (48, 64)] [] C) hx hb hK hP hD hS (48 + (z68_8).toNatClampNeg) (lt_blk b_41 hn (by decide)) (hT.bbridge b_41).1 (rg_in (rg_c (v := 8) (lo := 8) (hi := 8) (by decide)) (by decide)) (hT.upbridge b_41 (tA_upd (hT.bbridge b_41) tA_any)) (fr_st hF (by omega) (inR_of (p := (48, 64)) (by decide) (by show 48 ≤ _; omega) (by show _ < 64; omega))) dX7_hang_99 (fun C_42 H locs e_43 hT hF hP hD hS => ?_)
                have t_44 := hT
                refine lv_aload_n hx hb dX7_hang_100 rfl (lv_at hl 4 rfl) ?_
                refine lv_iload_n hx hb dX7_hang_101 rfl (lv_at hl 5 rfl) ?_
                refine lv_iload_n hx hb dX7_hang_102 rfl (lv_at hl 6 rfl) ?_
                refine lv_iload_n hx hb dX7_hang_103 rfl (lv_at hl 7 rfl) ?_
                refine lv_iload hx hb dX7_hang_104 (lv_at hl 8 rfl) ?_
                refine lv_iconst (v := 1) hx hb dX7_hang_106 (by decide) ?_
                refine tm_V (As := [.int x1, .int x2, .int x3, .int x4, .int 1]) (rest := []) ⟨hx, hb, hml, hown, htg⟩ (c_X7_cheapestOf l D E G _ a C_42 n hn hT x1 x2 x3 x4 (1 : Int32) (rg_w u_9.1 (by decide)) (rg_w u_19 (by decide)) (rg_w u_23 (by decide)) (oh_posU (rg_w u_9.1 (by decide)) (fun i hi => th_un e_43 (by omega)) (oh_posU (rg_w u_9.1 (by decide)) (fun i hi => hLF_68.1 _ (inR_out hi (by decide)) (by omega)) (oh_posU (rg_w u_9.1 (by decide)) (fun i hi => f_33.1 _ (inR_out hi (by decide)) (by omega)) u_9.2.1)))) (cwV 5 htg (oh_gV q_1347 q_1349 q_59 q_73 q_1350) rfl rfl rfl pdVX7_cheapestOf ⟨Nat.le_of_ble_eq_true rfl, Nat.le_of_ble_eq_true rfl⟩) hK hP hD hG hS hA (va_recv hK hP (ci := 7) (q0 := 0) rfl (oh_wg (Nat.lt_of_lt_of_le (by decide) hn) (sM_0 hT))) rfl hl.1 rfl (Nat.le_of_ble_eq_true rfl) dX7_hang_107 ⟨Nat.le_of_ble_eq_true rfl, Nat.le_of_ble_eq_true rfl⟩ (fun r_45 C_46 H locs hq_47 hP hD hS => ?_)
                obtain ⟨hT, f_48, hq_47⟩ := hq_47
                have hF := fr_tr hF f_48 (by decide) (by decide)
                refine W.widen (k := 0) (n := 0) (Nat.le_refl _) (Nat.le_refl _) ?_
                have t_49 := hT
                refine lv_istore (lv' := [(10, .int r_45), (9, .int (ga (K68 (48 + (z68_8).toNatClampNeg)) ((8 : Int32)).toNatClampNeg)), (8, .int z68_8), (6, .long z68_6), (5, .int z68_5), (0, .ref (a 0)), (1, .int x1), (2, .int x2), (3, .int x3), (4, .int x4)]) hx hb dX7_hang_110 hl (by decide) rfl (fun ls hl => ?_)
                refine lv_aload_n hx hb dX7_hang_112 rfl (lv_at hl 5 rfl) ?_
                refine va_get (D := D) (ci := 7) (v := .ref (a 10)) (C := RX7) (T := TX7) (N := 29) hx hb htg ig_7 hown hK hP 0 (oh_wg (Nat.lt_of_lt_of_le (by decide) hn) (sM_0 hT)) rfl 12 (by decide) (htg _ q_985) (fun _ h9 => h9) rfl dX7_hang_113 ?_
                refine lv_iload hx hb dX7_hang_116 (lv_at hl 2 rfl) ?_
                have n_50 : vp_in z68_8 16 := (rg_in (rn_ltu (u' := 15) (Int32.not_le.mp c_37) hz68_8 (rn_nel (l' := 1) c_24 (fM_0_11 hT0) (rg_c (v := 0) (lo := 0) (hi := 0) (by decide)) (by decide)) (by decide)) (by decide))
                have b_51 : (z68_8).toNatClampNeg < 16 := vp_lt n_50
                refine th_aald hx hb hK hP 10 2 (Nat.lt_of_lt_of_le (by decide) hn) (sM_10 hT) rfl n_50 dX7_hang_118 ?_
                refine lv_bipush (v := 8) hx hb dX7_hang_119 (by decide) ?_
                refine lv_iload hx hb dX7_hang_121 (lv_at hl 1 rfl) ?_
                refine th_iast (T := TyM a E) (Rl := fr [(8, 9), (15, 16), (48, 64)] [] C) hx hb hK hP hD hS (48 + (z68_8).toNatClampNeg) (lt_blk b_51 hn (by decide)) (hT.bbridge b_51).1 (rg_in (rg_c (v := 8) (lo := 8) (hi := 8) (by decide)) (by decide)) (hT.upbridge b_51 (tA_upd (hT.bbridge b_51) tA_any)) (fr_st hF (by omega) (inR_of (p := (48, 64)) (by decide) (by show 48 ≤ _; omega) (by show _ < 64; omega))) dX7_hang_123 (fun C_52 H locs e_53 hT hF hP hD hS => ?_)
                have t_54 := hT
                refine lv_iload hx hb dX7_hang_124 (lv_at hl 0 rfl) ?_
                refine lv_iconst (v := (-1)) hx hb dX7_hang_126 (by decide) ?_
                refine lv_icmp_ne (tgt := 136) hx hb dX7_hang_127 (by decide) (fun (c_55 : ¬ (r_45 = (-1))) => ?_) (fun (c_55 : r_45 = (-1)) => ?_)
                · refine lv_iload hx hb dX7_hang_136 (lv_at hl 0 rfl) ?_
                  refine lv_i2l (v := Int32.toInt64 r_45) hx hb dX7_hang_138 (by rfl) ?_
                  refine lv_lstore (lv' := [(11, .long (Int32.toInt64 r_45)), (10, .int r_45), (9, .int (ga (K68 (48 + (z68_8).toNatClampNeg)) ((8 : Int32)).toNatClampNeg)), (8, .int z68_8), (6, .long z68_6), (5, .int z68_5), (0, .ref (a 0)), (1, .int x1), (2, .int x2), (3, .int x3), (4, .int x4)]) hx hb dX7_hang_139 hl (by decide) rfl (fun ls hl => ?_)
                  refine lv_iload hx hb dX7_hang_141 (lv_at hl 5 rfl) ?_
                  refine lv_iconst (v := (-1)) hx hb dX7_hang_143 (by decide) ?_
                  refine lv_icmp_eq (tgt := 155) hx hb dX7_hang_144 (by decide) (fun (c_56 : z68_5 = (-1)) => ?_) (fun (c_56 : ¬ (z68_5 = (-1))) => ?_)
                  · refine lv_iload hx hb dX7_hang_155 (lv_at hl 3 rfl) ?_
                    refine lv_istore (lv' := [(5, .int z68_8), (11, .long (Int32.toInt64 r_45)), (10, .int r_45), (9, .int (ga (K68 (48 + (z68_8).toNatClampNeg)) ((8 : Int32)).toNatClampNeg)), (8, .int z68_8), (6, .long z68_6), (0, .ref (a 0)), (1, .int x1), (2, .int x2), (3, .int x3), (4, .int x4)]) hx hb dX7_hang_157 hl (by decide) rfl (fun ls hl => ?_)
                    refine lv_lload hx hb dX7_hang_159 (lv_at hl 1 rfl) ?_
                    refine lv_lstore (lv' := [(6, .long (Int32.toInt64 r_45)), (5, .int z68_8), (11, .long (Int32.toInt64 r_45)), (10, .int r_45), (9, .int (ga (K68 (48 + (z68_8).toNatClampNeg)) ((8 : Int32)).toNatClampNeg)), (8, .int z68_8), (0, .ref (a 0)), (1, .int x1), (2, .int x2), (3, .int x3), (4, .int x4)]) hx hb dX7_hang_161 hl (by decide) rfl (fun ls hl => ?_)
                    refine lv_iinc (v := z68_8 + 1) (lv' := [(8, .int (z68_8 + 1)), (6, .long (Int32.toInt64 r_45)), (5, .int z68_8), (11, .long (Int32.toInt64 r_45)), (10, .int r_45), (9, .int (ga (K68 (48 + (z68_8).toNatClampNeg)) ((8 : Int32)).toNatClampNeg)), (0, .ref (a 0)), (1, .int x1), (2, .int x2), (3, .int x3), (4, .int x4)]) hx hb dX7_hang_163 hl (k := 5) rfl (by rfl) (by decide) rfl (fun ls hl => ?_)
                    refine lv_goto (tgt := 68) hx hb dX7_hang_166 (by decide) ?_
                    exact ih_68 _ (hd_68 ▸ mu_up 16 (rn_ltu (u' := 15) (Int32.not_le.mp c_37) hz68_8 (rn_nel (l' := 1) c_24 (fM_0_11 hT0) (rg_c (v := 0) (lo := 0) (hi := 0) (by decide)) (by decide)) (by decide)) (by decide)) C_52 (z68_8 + 1) (Int32.toInt64 r_45) z68_8 _ _ ls rfl (rg_w (rg_add (lo := 1) (hi := 16) (rn_ltu (u' := 15) (Int32.not_le.mp c_37) hz68_8 (rn_nel (l' := 1) c_24 (fM_0_11 hT0) (rg_c (v := 0) (lo := 0) (hi := 0) (by decide)) (by decide)) (by decide)) (rg_c (v := 1) (lo := 1) (hi := 1) (by decide)) (by decide)) (by decide)) (fun A hA => by have h1 := (hx_68 A hA); have h2 := absM_st (t := 1) t_36 h1 (by decide) (show (z68_8).toNatClampNeg < 16 from b_41) e_43; have h3 := absM_fr h2 t_44 (show fr [(15, 16)] [] C_42 C_46 from (fr_tr fr_rf f_48 (by decide) (by decide))) (by decide) (by decide) (by decide); have h4 := absM_st (t := 1) t_49 h3 (by decide) (show (z68_8).toNatClampNeg < 16 from b_51) e_53; rw [putA_back (show A 1 (z68_8).toNatClampNeg ((8 : Int32)).toNatClampNeg = ga (K68 (48 + (z68_8).toNatClampNeg)) ((8 : Int32)).toNatClampNeg from (h1.2.2 1 (by decide) (z68_8).toNatClampNeg (by rw [oh_nat (rg_w (lo := 0) (hi := 15) (rn_ltu (u' := 15) (Int32.not_le.mp c_37) hz68_8 (rn_nel (l' := 1) c_24 (fM_0_11 hT0) (rg_c (v := 0) (lo := 0) (hi := 0) (by decide)) (by decide)) (by decide)) (by decide)) (by decide)]; exact Int32.lt_iff_toInt_lt.mp (oh_lte (Int32.not_le.mp c_37) (hA.1 1 (by decide)))) 8 (by decide) (by unfold vis; omega)).symm)] at h4; exact h4) hT hF (fr_ste (fr_tr (fr_ste hLF_68 e_43 (by omega) (inR_of (p := (48, 64)) (by decide) (by show 48 ≤ _; omega) (by show _ < 64; omega))) f_48 (by decide) (by decide)) e_53 (by omega) (inR_of (p := (48, 64)) (by decide) (by show 48 ≤ _; omega) (by show _ < 64; omega))) hP hD hS (lv_sub hl [0, 1, 2, 6, 7, 8, 9, 10] rfl)
                  · refine lv_lload hx hb dX7_hang_147 (lv_at hl 0 rfl) ?_
                    refine lv_lload hx hb dX7_hang_149 (lv_at hl 4 rfl) ?_
                    refine W.lcmp hx hb dX7_hang_151 ?_
                    refine lv_if_le (tgt := 163) hx hb dX7_hang_152 (by decide) (fun (c_57 : (lg_cmp (Int32.toInt64 r_45) z68_6) ≤ 0) => ?_) (fun (c_57 : ¬ ((lg_cmp (Int32.toInt64 r_45) z68_6) ≤ 0)) => ?_)
                    · refine lv_iinc (v := z68_8 + 1) (lv' := [(8, .int (z68_8 + 1)), (11, .long (Int32.toInt64 r_45)), (10, .int r_45), (9, .int (ga (K68 (48 + (z68_8).toNatClampNeg)) ((8 : Int32)).toNatClampNeg)), (6, .long z68_6), (5, .int z68_5), (0, .ref (a 0)), (1, .int x1), (2, .int x2), (3, .int x3), (4, .int x4)]) hx hb dX7_hang_163 hl (k := 3) rfl (by rfl) (by decide) rfl (fun ls hl => ?_)
                      refine lv_goto (tgt := 68) hx hb dX7_hang_166 (by decide) ?_
                      exact ih_68 _ (hd_68 ▸ mu_up 16 (rn_ltu (u' := 15) (Int32.not_le.mp c_37) hz68_8 (rn_nel (l' := 1) c_24 (fM_0_11 hT0) (rg_c (v := 0) (lo := 0) (hi := 0) (by decide)) (by decide)) (by decide)) (by decide)) C_52 (z68_8 + 1) z68_6 z68_5 _ _ ls rfl (rg_w (rg_add (lo := 1) (hi := 16) (rn_ltu (u' := 15) (Int32.not_le.mp c_37) hz68_8 (rn_nel (l' := 1) c_24 (fM_0_11 hT0) (rg_c (v := 0) (lo := 0) (hi := 0) (by decide)) (by decide)) (by decide)) (rg_c (v := 1) (lo := 1) (hi := 1) (by decide)) (by decide)) (by decide)) (fun A hA => by have h1 := (hx_68 A hA); have h2 := absM_st (t := 1) t_36 h1 (by decide) (show (z68_8).toNatClampNeg < 16 from b_41) e_43; have h3 := absM_fr h2 t_44 (show fr [(15, 16)] [] C_42 C_46 from (fr_tr fr_rf f_48 (by decide) (by decide))) (by decide) (by decide) (by decide); have h4 := absM_st (t := 1) t_49 h3 (by decide) (show (z68_8).toNatClampNeg < 16 from b_51) e_53; rw [putA_back (show A 1 (z68_8).toNatClampNeg ((8 : Int32)).toNatClampNeg = ga (K68 (48 + (z68_8).toNatClampNeg)) ((8 : Int32)).toNatClampNeg from (h1.2.2 1 (by decide) (z68_8).toNatClampNeg (by rw [oh_nat (rg_w (lo := 0) (hi := 15) (rn_ltu (u' := 15) (Int32.not_le.mp c_37) hz68_8 (rn_nel (l' := 1) c_24 (fM_0_11 hT0) (rg_c (v := 0) (lo := 0) (hi := 0) (by decide)) (by decide)) (by decide)) (by decide)) (by decide)]; exact Int32.lt_iff_toInt_lt.mp (oh_lte (Int32.not_le.mp c_37) (hA.1 1 (by decide)))) 8 (by decide) (by unfold vis; omega)).symm)] at h4; exact h4) hT hF (fr_ste (fr_tr (fr_ste hLF_68 e_43 (by omega) (inR_of (p := (48, 64)) (by decide) (by show 48 ≤ _; omega) (by show _ < 64; omega))) f_48 (by decide) (by decide)) e_53 (by omega) (inR_of (p := (48, 64)) (by decide) (by show 48 ≤ _; omega) (by show _ < 64; omega))) hP hD hS (lv_sub hl [0, 4, 5, 6, 7, 8, 9, 10] rfl)
                    · refine lv_iload hx hb dX7_hang_155 (lv_at hl 3 rfl) ?_
                      refine lv_istore (lv' := [(5, .int z68_8), (11, .long (Int32.toInt64 r_45)), (10, .int r_45), (9, .int (ga (K68 (48 + (z68_8).toNatClampNeg)) ((8 : Int32)).toNatClampNeg)), (8, .int z68_8), (6, .long z68_6), (0, .ref (a 0)), (1, .int x1), (2, .int x2), (3, .int x3), (4, .int x4)]) hx hb dX7_hang_157 hl (by decide) rfl (fun ls hl => ?_)
                      refine lv_lload hx hb dX7_hang_159 (lv_at hl 1 rfl) ?_
                      refine lv_lstore (lv' := [(6, .long (Int32.toInt64 r_45)), (5, .int z68_8), (11, .long (Int32.toInt64 r_45)), (10, .int r_45), (9, .int (ga (K68 (48 + (z68_8).toNatClampNeg)) ((8 : Int32)).toNatClampNeg)), (8, .int z68_8), (0, .ref (a 0)), (1, .int x1), (2, .int x2), (3, .int x3), (4, .int x4)]) hx hb dX7_hang_161 hl (by decide) rfl (fun ls hl => ?_)
                      refine lv_iinc (v := z68_8 + 1) (lv' := [(8, .int (z68_8 + 1)), (6, .long (Int32.toInt64 r_45)), (5, .int z68_8), (11, .long (Int32.toInt64 r_45)), (10, .int r_45), (9, .int (ga (K68 (48 + (z68_8).toNatClampNeg)) ((8 : Int32)).toNatClampNeg)), (0, .ref (a 0)), (1, .int x1), (2, .int x2), (3, .int x3), (4, .int x4)]) hx hb dX7_hang_163 hl (k := 5) rfl (by rfl) (by decide) rfl (fun ls hl => ?_)
                      refine lv_goto (tgt := 68) hx hb dX7_hang_166 (by decide) ?_
                      exact ih_68 _ (hd_68 ▸ mu_up 16 (rn_ltu (u' := 15) (Int32.not_le.mp c_37) hz68_8 (rn_nel (l' := 1) c_24 (fM_0_11 hT0) (rg_c (v := 0) (lo := 0) (hi := 0) (by decide)) (by decide)) (by decide)) (by decide)) C_52 (z68_8 + 1) (Int32.toInt64 r_45) z68_8 _ _ ls rfl (rg_w (rg_add (lo := 1) (hi := 16) (rn_ltu (u' := 15) (Int32.not_le.mp c_37) hz68_8 (rn_nel (l' := 1) c_24 (fM_0_11 hT0) (rg_c (v := 0) (lo := 0) (hi := 0) (by decide)) (by decide)) (by decide)) (rg_c (v := 1) (lo := 1) (hi := 1) (by decide)) (by decide)) (by decide)) (fun A hA => by have h1 := (hx_68 A hA); have h2 := absM_st (t := 1) t_36 h1 (by decide) (show (z68_8).toNatClampNeg < 16 from b_41) e_43; have h3 := absM_fr h2 t_44 (show fr [(15, 16)] [] C_42 C_46 from (fr_tr fr_rf f_48 (by decide) (by decide))) (by decide) (by decide) (by decide); have h4 := absM_st (t := 1) t_49 h3 (by decide) (show (z68_8).toNatClampNeg < 16 from b_51) e_53; rw [putA_back (show A 1 (z68_8).toNatClampNeg ((8 : Int32)).toNatClampNeg = ga (K68 (48 + (z68_8).toNatClampNeg)) ((8 : Int32)).toNatClampNeg from (h1.2.2 1 (by decide) (z68_8).toNatClampNeg (by rw [oh_nat (rg_w (lo := 0) (hi := 15) (rn_ltu (u' := 15) (Int32.not_le.mp c_37) hz68_8 (rn_nel (l' := 1) c_24 (fM_0_11 hT0) (rg_c (v := 0) (lo := 0) (hi := 0) (by decide)) (by decide)) (by decide)) (by decide)) (by decide)]; exact Int32.lt_iff_toInt_lt.mp (oh_lte (Int32.not_le.mp c_37) (hA.1 1 (by decide)))) 8 (by decide) (by unfold vis; omega)).symm)] at h4; exact h4) hT hF (fr_ste (fr_tr (fr_ste hLF_68 e_43 (by omega) (inR_of (p := (48, 64)) (by decide) (by show 48 ≤ _; omega) (by show _ < 64; omega))) f_48 (by decide) (by decide)) e_53 (by omega) (inR_of (p := (48, 64)) (by decide) (by show 48 ≤ _; omega) (by show _ < 64; omega))) hP hD hS (lv_sub hl [0, 1, 2, 6, 7, 8, 9, 10] rfl)
                · refine lv_ldc2 (v := 1000000000000) hx hb hown (htg _ q_1355) dX7_hang_130 ?_
                  refine lv_goto (tgt := 139) hx hb dX7_hang_133 (by decide) ?_
                  refine lv_lstore (lv' := [(11, .long 1000000000000), (10, .int r_45), (9, .int (ga (K68 (48 + (z68_8).toNatClampNeg)) ((8 : Int32)).toNatClampNeg)), (8, .int z68_8), (6, .long z68_6), (5, .int z68_5), (0, .ref (a 0)), (1, .int x1), (2, .int x2), (3, .int x3), (4, .int x4)]) hx hb dX7_hang_139 hl (by decide) rfl (fun ls hl => ?_)
                  refine lv_iload hx hb dX7_hang_141 (lv_at hl 5 rfl) ?_
                  refine lv_iconst (v := (-1)) hx hb dX7_hang_143 (by decide) ?_
                  refine lv_icmp_eq (tgt := 155) hx hb dX7_hang_144 (by decide) (fun (c_58 : z68_5 = (-1)) => ?_) (fun (c_58 : ¬ (z68_5 = (-1))) => ?_)
                  · refine lv_iload hx hb dX7_hang_155 (lv_at hl 3 rfl) ?_
                    refine lv_istore (lv' := [(5, .int z68_8), (11, .long 1000000000000), (10, .int r_45), (9, .int (ga (K68 (48 + (z68_8).toNatClampNeg)) ((8 : Int32)).toNatClampNeg)), (8, .int z68_8), (6, .long z68_6), (0, .ref (a 0)), (1, .int x1), (2, .int x2), (3, .int x3), (4, .int x4)]) hx hb dX7_hang_157 hl (by decide) rfl (fun ls hl => ?_)
                    refine lv_lload hx hb dX7_hang_159 (lv_at hl 1 rfl) ?_
                    refine lv_lstore (lv' := [(6, .long 1000000000000), (5, .int z68_8), (11, .long 1000000000000), (10, .int r_45), (9, .int (ga (K68 (48 + (z68_8).toNatClampNeg)) ((8 : Int32)).toNatClampNeg)), (8, .int z68_8), (0, .ref (a 0)), (1, .int x1), (2, .int x2), (3, .int x3), (4, .int x4)]) hx hb dX7_hang_161 hl (by decide) rfl (fun ls hl => ?_)
                    refine lv_iinc (v := z68_8 + 1) (lv' := [(8, .int (z68_8 + 1)), (6, .long 1000000000000), (5, .int z68_8), (11, .long 1000000000000), (10, .int r_45), (9, .int (ga (K68 (48 + (z68_8).toNatClampNeg)) ((8 : Int32)).toNatClampNeg)), (0, .ref (a 0)), (1, .int x1), (2, .int x2), (3, .int x3), (4, .int x4)]) hx hb dX7_hang_163 hl (k := 5) rfl (by rfl) (by decide) rfl (fun ls hl => ?_)
                    refine lv_goto (tgt := 68) hx hb dX7_hang_166 (by decide) ?_
                    exact ih_68 _ (hd_68 ▸ mu_up 16 (rn_ltu (u' := 15) (Int32.not_le.mp c_37) hz68_8 (rn_nel (l' := 1) c_24 (fM_0_11 hT0) (rg_c (v := 0) (lo := 0) (hi := 0) (by decide)) (by decide)) (by decide)) (by decide)) C_52 (z68_8 + 1) 1000000000000 z68_8 _ _ ls rfl (rg_w (rg_add (lo := 1) (hi := 16) (rn_ltu (u' := 15) (Int32.not_le.mp c_37) hz68_8 (rn_nel (l' := 1) c_24 (fM_0_11 hT0) (rg_c (v := 0) (lo := 0) (hi := 0) (by decide)) (by decide)) (by decide)) (rg_c (v := 1) (lo := 1) (hi := 1) (by decide)) (by decide)) (by decide)) (fun A hA => by have h1 := (hx_68 A hA); have h2 := absM_st (t := 1) t_36 h1 (by decide) (show (z68_8).toNatClampNeg < 16 from b_41) e_43; have h3 := absM_fr h2 t_44 (show fr [(15, 16)] [] C_42 C_46 from (fr_tr fr_rf f_48 (by decide) (by decide))) (by decide) (by decide) (by decide); have h4 := absM_st (t := 1) t_49 h3 (by decide) (show (z68_8).toNatClampNeg < 16 from b_51) e_53; rw [putA_back (show A 1 (z68_8).toNatClampNeg ((8 : Int32)).toNatClampNeg = ga (K68 (48 + (z68_8).toNatClampNeg)) ((8 : Int32)).toNatClampNeg from (h1.2.2 1 (by decide) (z68_8).toNatClampNeg (by rw [oh_nat (rg_w (lo := 0) (hi := 15) (rn_ltu (u' := 15) (Int32.not_le.mp c_37) hz68_8 (rn_nel (l' := 1) c_24 (fM_0_11 hT0) (rg_c (v := 0) (lo := 0) (hi := 0) (by decide)) (by decide)) (by decide)) (by decide)) (by decide)]; exact Int32.lt_iff_toInt_lt.mp (oh_lte (Int32.not_le.mp c_37) (hA.1 1 (by decide)))) 8 (by decide) (by unfold vis; omega)).symm)] at h4; exact h4) hT hF (fr_ste (fr_tr (fr_ste hLF_68 e_43 (by omega) (inR_of (p := (48, 64)) (by decide) (by show 48 ≤ _; omega) (by show _ < 64; omega))) f_48 (by decide) (by decide)) e_53 (by omega) (inR_of (p := (48, 64)) (by decide) (by show 48 ≤ _; omega) (by show _ < 64; omega))) hP hD hS (lv_sub hl [0, 1, 2, 6, 7, 8, 9, 10] rfl)
                  · refine lv_lload hx hb dX7_hang_147 (lv_at hl 0 rfl) ?_
                    refine lv_lload hx hb dX7_hang_149 (lv_at hl 4 rfl) ?_
                    refine W.lcmp hx hb dX7_hang_151 ?_
                    refine lv_if_le (tgt := 163) hx hb dX7_hang_152 (by decide) (fun (c_59 : (lg_cmp (1000000000000 : Int64) z68_6) ≤ 0) => ?_) (fun (c_59 : ¬ ((lg_cmp (1000000000000 : Int64) z68_6) ≤ 0)) => ?_)
                    · refine lv_iinc (v := z68_8 + 1) (lv' := [(8, .int (z68_8 + 1)), (11, .long 1000000000000), (10, .int r_45), (9, .int (ga (K68 (48 + (z68_8).toNatClampNeg)) ((8 : Int32)).toNatClampNeg)), (6, .long z68_6), (5, .int z68_5), (0, .ref (a 0)), (1, .int x1), (2, .int x2), (3, .int x3), (4, .int x4)]) hx hb dX7_hang_163 hl (k := 3) rfl (by rfl) (by decide) rfl (fun ls hl => ?_)
                      refine lv_goto (tgt := 68) hx hb dX7_hang_166 (by decide) ?_
                      exact ih_68 _ (hd_68 ▸ mu_up 16 (rn_ltu (u' := 15) (Int32.not_le.mp c_37) hz68_8 (rn_nel (l' := 1) c_24 (fM_0_11 hT0) (rg_c (v := 0) (lo := 0) (hi := 0) (by decide)) (by decide)) (by decide)) (by decide)) C_52 (z68_8 + 1) z68_6 z68_5 _ _ ls rfl (rg_w (rg_add (lo := 1) (hi := 16) (rn_ltu (u' := 15) (Int32.not_le.mp c_37) hz68_8 (rn_nel (l' := 1) c_24 (fM_0_11 hT0) (rg_c (v := 0) (lo := 0) (hi := 0) (by decide)) (by decide)) (by decide)) (rg_c (v := 1) (lo := 1) (hi := 1) (by decide)) (by decide)) (by decide)) (fun A hA => by have h1 := (hx_68 A hA); have h2 := absM_st (t := 1) t_36 h1 (by decide) (show (z68_8).toNatClampNeg < 16 from b_41) e_43; have h3 := absM_fr h2 t_44 (show fr [(15, 16)] [] C_42 C_46 from (fr_tr fr_rf f_48 (by decide) (by decide))) (by decide) (by decide) (by decide); have h4 := absM_st (t := 1) t_49 h3 (by decide) (show (z68_8).toNatClampNeg < 16 from b_51) e_53; rw [putA_back (show A 1 (z68_8).toNatClampNeg ((8 : Int32)).toNatClampNeg = ga (K68 (48 + (z68_8).toNatClampNeg)) ((8 : Int32)).toNatClampNeg from (h1.2.2 1 (by decide) (z68_8).toNatClampNeg (by rw [oh_nat (rg_w (lo := 0) (hi := 15) (rn_ltu (u' := 15) (Int32.not_le.mp c_37) hz68_8 (rn_nel (l' := 1) c_24 (fM_0_11 hT0) (rg_c (v := 0) (lo := 0) (hi := 0) (by decide)) (by decide)) (by decide)) (by decide)) (by decide)]; exact Int32.lt_iff_toInt_lt.mp (oh_lte (Int32.not_le.mp c_37) (hA.1 1 (by decide)))) 8 (by decide) (by unfold vis; omega)).symm)] at h4; exact h4) hT hF (fr_ste (fr_tr (fr_ste hLF_68 e_43 (by omega) (inR_of (p := (48, 64)) (by decide) (by show 48 ≤ _; omega) (by show _ < 64; omega))) f_48 (by decide) (by decide)) e_53 (by omega) (inR_of (p := (48, 64)) (by decide) (by show 48 ≤ _; omega) (by show _ < 64; omega))) hP hD hS (lv_sub hl [0, 4, 5, 6, 7, 8, 9, 10] rfl)
                    · refine lv_iload hx hb dX7_hang_155 (lv_at hl 3 rfl) ?_
                      refine lv_istore (lv' := [(5, .int z68_8), (11, .long 1000000000000), (10, .int r_45), (9, .int (ga (K68 (48 + (z68_8).toNatClampNeg)) ((8 : Int32)).toNatClampNeg)), (8, .int z68_8), (6, .long z68_6), (0, .ref (a 0)), (1, .int x1), (2, .int x2), (3, .int x3), (4, .int x4)]) hx hb dX7_hang_157 hl (by decide) rfl (fun ls hl => ?_)
                      refine lv_lload hx hb dX7_hang_159 (lv_at hl 1 rfl) ?_
                      refine lv_lstore (lv' := [(6, .long 1000000000000), (5, .int z68_8), (11, .long 1000000000000), (10, .int r_45), (9, .int (ga (K68 (48 + (z68_8).toNatClampNeg)) ((8 : Int32)).toNatClampNeg)), (8, .int z68_8), (0, .ref (a 0)), (1, .int x1), (2, .int x2), (3, .int x3), (4, .int x4)]) hx hb dX7_hang_161 hl (by decide) rfl (fun ls hl => ?_)
                      refine lv_iinc (v := z68_8 + 1) (lv' := [(8, .int (z68_8 + 1)), (6, .long 1000000000000), (5, .int z68_8), (11, .long 1000000000000), (10, .int r_45), (9, .int (ga (K68 (48 + (z68_8).toNatClampNeg)) ((8 : Int32)).toNatClampNeg)), (0, .ref (a 0)), (1, .int x1), (2, .int x2), (3, .int x3), (4, .int x4)]) hx hb dX7_hang_163 hl (k := 5) rfl (by rfl) (by decide) rfl (fun ls hl => ?_)
                      refine lv_goto (tgt := 68) hx hb dX7_hang_166 (by decide) ?_
                      exact ih_68 _ (hd_68 ▸ mu_up 16 (rn_ltu (u' := 15) (Int32.not_le.mp c_37) hz68_8 (rn_nel (l' := 1) c_24 (fM_0_11 hT0) (rg_c (v := 0) (lo := 0) (hi := 0) (by decide)) (by decide)) (by decide)) (by decide)) C_52 (z68_8 + 1) 1000000000000 z68_8 _ _ ls rfl (rg_w (rg_add (lo := 1) (hi := 16) (rn_ltu (u' := 15) (Int32.not_le.mp c_37) hz68_8 (rn_nel (l' := 1) c_24 (fM_0_11 hT0) (rg_c (v := 0) (lo := 0) (hi := 0) (by decide)) (by decide)) (by decide)) (rg_c (v := 1) (lo := 1) (hi := 1) (by decide)) (by decide)) (by decide)) (fun A hA => by have h1 := (hx_68 A hA); have h2 := absM_st (t := 1) t_36 h1 (by decide) (show (z68_8).toNatClampNeg < 16 from b_41) e_43; have h3 := absM_fr h2 t_44 (show fr [(15, 16)] [] C_42 C_46 from (fr_tr fr_rf f_48 (by decide) (by decide))) (by decide) (by decide) (by decide); have h4 := absM_st (t := 1) t_49 h3 (by decide) (show (z68_8).toNatClampNeg < 16 from b_51) e_53; rw [putA_back (show A 1 (z68_8).toNatClampNeg ((8 : Int32)).toNatClampNeg = ga (K68 (48 + (z68_8).toNatClampNeg)) ((8 : Int32)).toNatClampNeg from (h1.2.2 1 (by decide) (z68_8).toNatClampNeg (by rw [oh_nat (rg_w (lo := 0) (hi := 15) (rn_ltu (u' := 15) (Int32.not_le.mp c_37) hz68_8 (rn_nel (l' := 1) c_24 (fM_0_11 hT0) (rg_c (v := 0) (lo := 0) (hi := 0) (by decide)) (by decide)) (by decide)) (by decide)) (by decide)]; exact Int32.lt_iff_toInt_lt.mp (oh_lte (Int32.not_le.mp c_37) (hA.1 1 (by decide)))) 8 (by decide) (by unfold vis; omega)).symm)] at h4; exact h4) hT hF (fr_ste (fr_tr (fr_ste hLF_68 e_43 (by omega) (inR_of (p := (48, 64)) (by decide) (by show 48 ≤ _; omega) (by show _ < 64; omega))) f_48 (by decide) (by decide)) e_53 (by omega) (inR_of (p := (48, 64)) (by decide) (by show 48 ≤ _; omega) (by show _ < 64; omega))) hP hD hS (lv_sub hl [0, 1, 2, 6, 7, 8, 9, 10] rfl)
            exact L_68 _ C_31 0 0 (-1) _ _ ls rfl (rg_w (rg_c (v := 0) (lo := 0) (hi := 0) (by decide)) (by decide)) (fun A hA => by have h1 := hA; have h2 := absM_fr h1 hT0 (show fr [(15, 16)] [] C C_31 from (fr_tr fr_rf f_33 (by decide) (by decide))) (by decide) (by decide) (by decide); exact h2) hT hF fr_rf hP hD hS (lv_sub hl [0, 1, 2, 3, 4, 5, 6, 7] rfl)
          · refine lv_aload_n hx hb dX7_hang_52 rfl (lv_at hl 0 rfl) ?_
            refine lv_bipush (v := (-5)) hx hb dX7_hang_53 (by decide) ?_
            refine tm_V (As := [.int (-5)]) (rest := []) ⟨hx, hb, hml, hown, htg⟩ (c_X7_refuse l D E G _ a C_31 n hn hT ((-5) : Int32) (rg_w (rg_c (v := (-5)) (lo := (-5)) (hi := (-5)) (by decide)) (by decide))) (cwV 1 htg (oh_gV q_1071 q_1073 q_29 q_73 q_1074) rfl rfl rfl pdVX7_refuse ⟨Nat.le_of_ble_eq_true rfl, Nat.le_of_ble_eq_true rfl⟩) hK hP hD hG hS hA (va_recv hK hP (ci := 7) (q0 := 0) rfl (oh_wg (Nat.lt_of_lt_of_le (by decide) hn) (sM_0 hT))) rfl hl.1 rfl (Nat.le_of_ble_eq_true rfl) dX7_hang_55 ⟨Nat.le_of_ble_eq_true rfl, Nat.le_of_ble_eq_true rfl⟩ (fun r_60 C_61 H locs hq_62 hP hD hS => ?_)
            obtain ⟨hT, f_63, hq_62⟩ := hq_62
            have hF := fr_tr hF f_63 (by decide) (by decide)
            refine W.widen (k := 0) (n := 0) (Nat.le_refl _) (Nat.le_refl _) ?_
            have t_64 := hT
            rw [hQ]
            exact W.iret (v := r_60) hx hb hr (fun t ht hW => ⟨⟨r_60, C_61, rfl, ⟨hT, hF, ⟨⟨hR.1.fr hF (by decide), hR.2.fr hF (by decide)⟩, (fun A hA => by have h1 := hA; have h2 := absM_fr h1 hT0 (show fr [(8, 9), (15, 16)] [] C C_61 from (fr_tr (fr_tr fr_rf f_33 (by decide) (by decide)) f_63 (by decide) (by decide))) (by decide) (by decide) (by decide); exact h2)⟩⟩, ⟨by rw [ht]; exact hP, hD⟩⟩, hS.F ht⟩) hS.2.2 dX7_hang_58
      · have u_65 := hq_21.2.2 c_22
        refine lv_aload_n hx hb dX7_hang_24 rfl (lv_at hl 0 rfl) ?_
        refine lv_bipush (v := (-2)) hx hb dX7_hang_25 (by decide) ?_
        refine tm_V (As := [.int (-2)]) (rest := []) ⟨hx, hb, hml, hown, htg⟩ (c_X7_refuse l D E G _ a C n hn hT ((-2) : Int32) (rg_w (rg_c (v := (-2)) (lo := (-2)) (hi := (-2)) (by decide)) (by decide))) (cwV 1 htg (oh_gV q_1071 q_1073 q_29 q_73 q_1074) rfl rfl rfl pdVX7_refuse ⟨Nat.le_of_ble_eq_true rfl, Nat.le_of_ble_eq_true rfl⟩) hK hP hD hG hS hA (va_recv hK hP (ci := 7) (q0 := 0) rfl (oh_wg (Nat.lt_of_lt_of_le (by decide) hn) (sM_0 hT))) rfl hl.1 rfl (Nat.le_of_ble_eq_true rfl) dX7_hang_27 ⟨Nat.le_of_ble_eq_true rfl, Nat.le_of_ble_eq_true rfl⟩ (fun r_66 C_67 H locs hq_68 hP hD hS => ?_)
        obtain ⟨hT, f_69, hq_68⟩ := hq_68
        have hF := fr_tr hF f_69 (by decide) (by decide)
        refine W.widen (k := 0) (n := 0) (Nat.le_refl _) (Nat.le_refl _) ?_
        have t_70 := hT
        rw [hQ]
        exact W.iret (v := r_66) hx hb hr (fun t ht hW => ⟨⟨r_66, C_67, rfl, ⟨hT, hF, ⟨⟨hR.1.fr hF (by decide), hR.2.fr hF (by decide)⟩, (fun A hA => by have h1 := hA; have h2 := absM_fr h1 hT0 (show fr [(8, 9)] [] C C_67 from (fr_tr fr_rf f_69 (by decide) (by decide))) (by decide) (by decide) (by decide); exact h2)⟩⟩, ⟨by rw [ht]; exact hP, hD⟩⟩, hS.F ht⟩) hS.2.2 dX7_hang_30

set_option maxHeartbeats 4000000 in
set_option maxRecDepth 100000 in
theorem e_X7_most (l : Launch) (D : va_G) (E : Nat → ClassId) (G : Nat → Nat) (sz : Nat) (a : Nat → Nat) (C : Nat → va_E) (n : Nat) (hn : 74 ≤ n) (hT : TyM a E C) (x1 : Int32) (x2 : Int32) (x3 : Int32) (hR : RelM C) : Met l yX7_most (oh_w yX7_most cX7_most 8 (some .int)) ({ frames := 7, cells := 0, slots := 0, locals := 177 }) (oh_Pm D E G [.ref (a 0), .int x1, .int x2, .int x3] (oh_W n a C) sz) (va_Qi (fun r (u : Nat → va_E) => TyM a E u ∧ fr [(8, 9), (13, 14), (15, 16)] [] C u ∧ (RelM u) ∧ (ga (u 13) = ga (C 13))) (oh_B D (va_A (oh_W n a C) sz) (fun u => oh_W n a u)) (va_A (oh_W n a C) sz)) 0 0 (va_A (oh_W n a C) sz) := by
  refine Met.ofW (cc := cX7_most) (maxL := 8) (ret := (some .int)) (by decide) rfl ?_
  intro p e s m args below meth c s₁ B hml hv
  obtain ⟨rfl, hsz, hP, hK, hD0, hG⟩ := hv
  have hx := B.exec
  have hb := B.bytes
  have hr := B.returns
  have hts := atoms_spec (ws := (oh_w yX7_most cX7_most 8 (some .int))) B.pre
  have htg : ∀ w ∈ oh_t, w.before _ s = true := fun w h => hts w (List.mem_cons_of_mem _ h)
  have hown : s.vm.findClass RX7 = some m.cls := findClass_of_methodNamed B.named
  have hlocks := B.notSynchronized
  have hT0 := hT
  subst hsz
  have hD := hD0.self (sz := s.heap.size)
  generalize hAe : va_A (oh_W n a C) s.heap.size = A at hD hG ⊢
  have hA : ∀ q : Nat, s.heap.size ≤ q → A q := fun q h => by rw [← hAe]; exact Or.inr h
  have hS : va_S A s.heap s.heap [] := va_S.rf
  have hF : fr [(8, 9), (13, 14), (15, 16)] [] C C := fr_rf
  have hl := lv_entry ([.ref (a 0), .int x1, .int x2, .int x3]) (n := 8) (Nat.le_of_ble_eq_true rfl)
  rw [lg_entry_eq]
  generalize (lg_sl ([.ref (a 0), .int x1, .int x2, .int x3]) ++ List.replicate (8 - (lg_sl ([.ref (a 0), .int x1, .int x2, .int x3])).length) Slot.unset).toArray = ls at hl ⊢
  have hl : lv_has ls 8 [(0, .ref (a 0)), (1, .int x1), (2, .int x2), (3, .int x3)] := hl
  refine oh_genQ (fun Q hQ => ?_)
  refine lv_aload_n hx hb dX7_most_0 rfl (lv_at hl 0 rfl) ?_
  refine lv_iload_n hx hb dX7_most_1 rfl (lv_at hl 1 rfl) ?_
  refine tq_V (As := [.int x1]) (rest := []) (ws := (oh_W n a C)) ⟨hx, hb, hml, hown, htg⟩ (c_X7_isWaggon l D E G a C n hn hT x1 hR.1) (cwV 1 htg (oh_gV q_1278 q_1280 q_48 q_73 q_1281) rfl rfl rfl pdVX7_isWaggon ⟨Nat.le_of_ble_eq_true rfl, Nat.le_of_ble_eq_true rfl⟩) hK hP hG hS (va_recv hK hP (ci := 7) (q0 := 0) rfl (oh_wg (Nat.lt_of_lt_of_le (by decide) hn) (sM_0 hT))) rfl hl.1 rfl (Nat.le_of_ble_eq_true rfl) dX7_most_2 ⟨Nat.le_of_ble_eq_true rfl, Nat.le_of_ble_eq_true rfl⟩ (fun r_1 hq_2 => ?_)
  refine lv_if_eq (tgt := 22) hx hb dX7_most_5 (by decide) (fun (c_3 : r_1 = 0) => ?_) (fun (c_3 : ¬ (r_1 = 0)) => ?_)
  · refine lv_aload_n hx hb dX7_most_22 rfl (lv_at hl 0 rfl) ?_
    refine lv_bipush (v := (-2)) hx hb dX7_most_23 (by decide) ?_
    refine tm_V (As := [.int (-2)]) (rest := []) ⟨hx, hb, hml, hown, htg⟩ (c_X7_refuse l D E G _ a C n hn hT ((-2) : Int32) (rg_w (rg_c (v := (-2)) (lo := (-2)) (hi := (-2)) (by decide)) (by decide))) (cwV 1 htg (oh_gV q_1071 q_1073 q_29 q_73 q_1074) rfl rfl rfl pdVX7_refuse ⟨Nat.le_of_ble_eq_true rfl, Nat.le_of_ble_eq_true rfl⟩) hK hP hD hG hS hA (va_recv hK hP (ci := 7) (q0 := 0) rfl (oh_wg (Nat.lt_of_lt_of_le (by decide) hn) (sM_0 hT))) rfl hl.1 rfl (Nat.le_of_ble_eq_true rfl) dX7_most_25 ⟨Nat.le_of_ble_eq_true rfl, Nat.le_of_ble_eq_true rfl⟩ (fun r_4 C_5 H locs hq_6 hP hD hS => ?_)
    obtain ⟨hT, f_7, hq_6⟩ := hq_6
    have hF := fr_tr hF f_7 (by decide) (by decide)
    refine W.widen (k := 0) (n := 0) (Nat.le_refl _) (Nat.le_refl _) ?_
    have t_8 := hT
    rw [hQ]
    exact W.iret (v := r_4) hx hb hr (fun t ht hW => ⟨⟨r_4, C_5, rfl, ⟨hT, hF, ⟨⟨hR.1.fr hF (by decide), hR.2.fr hF (by decide)⟩, (congrArg ga (f_7.1 13 rfl (by decide)))⟩⟩, ⟨by rw [ht]; exact hP, hD⟩⟩, hS.F ht⟩) hS.2.2 dX7_most_28
  · have u_9 := hq_2.2 c_3
    refine lv_iload_n hx hb dX7_most_8 rfl (lv_at hl 2 rfl) ?_
    refine tq_S (As := [.int x2]) (rest := []) (ws := []) ⟨hx, hb, hml, hown, htg⟩ (e_X7_isPlace l D E G x2) (va_cwS 1 htg (oh_gS q_1130 q_1131 q_73 q_1132) rfl rfl rfl pdX7_isPlace ⟨Nat.le_of_ble_eq_true rfl, Nat.le_of_ble_eq_true rfl⟩) hK va_nil hG hS rfl hl.1 rfl (Nat.le_of_ble_eq_true rfl) dX7_most_9 ⟨Nat.le_of_ble_eq_true rfl, Nat.le_of_ble_eq_true rfl⟩ (fun r_10 hq_11 => ?_)
    refine lv_if_eq (tgt := 22) hx hb dX7_most_12 (by decide) (fun (c_12 : r_10 = 0) => ?_) (fun (c_12 : ¬ (r_10 = 0)) => ?_)
    · have u_13 := hq_11.2.2 c_12
      refine lv_aload_n hx hb dX7_most_22 rfl (lv_at hl 0 rfl) ?_
      refine lv_bipush (v := (-2)) hx hb dX7_most_23 (by decide) ?_
      refine tm_V (As := [.int (-2)]) (rest := []) ⟨hx, hb, hml, hown, htg⟩ (c_X7_refuse l D E G _ a C n hn hT ((-2) : Int32) (rg_w (rg_c (v := (-2)) (lo := (-2)) (hi := (-2)) (by decide)) (by decide))) (cwV 1 htg (oh_gV q_1071 q_1073 q_29 q_73 q_1074) rfl rfl rfl pdVX7_refuse ⟨Nat.le_of_ble_eq_true rfl, Nat.le_of_ble_eq_true rfl⟩) hK hP hD hG hS hA (va_recv hK hP (ci := 7) (q0 := 0) rfl (oh_wg (Nat.lt_of_lt_of_le (by decide) hn) (sM_0 hT))) rfl hl.1 rfl (Nat.le_of_ble_eq_true rfl) dX7_most_25 ⟨Nat.le_of_ble_eq_true rfl, Nat.le_of_ble_eq_true rfl⟩ (fun r_14 C_15 H locs hq_16 hP hD hS => ?_)
      obtain ⟨hT, f_17, hq_16⟩ := hq_16
      have hF := fr_tr hF f_17 (by decide) (by decide)
      refine W.widen (k := 0) (n := 0) (Nat.le_refl _) (Nat.le_refl _) ?_
      have t_18 := hT
      rw [hQ]
      exact W.iret (v := r_14) hx hb hr (fun t ht hW => ⟨⟨r_14, C_15, rfl, ⟨hT, hF, ⟨⟨hR.1.fr hF (by decide), hR.2.fr hF (by decide)⟩, (congrArg ga (f_17.1 13 rfl (by decide)))⟩⟩, ⟨by rw [ht]; exact hP, hD⟩⟩, hS.F ht⟩) hS.2.2 dX7_most_28
    · have u_19 := hq_11.2.1 c_12
      refine lv_iload_n hx hb dX7_most_15 rfl (lv_at hl 3 rfl) ?_
      refine tq_S (As := [.int x3]) (rest := []) (ws := []) ⟨hx, hb, hml, hown, htg⟩ (e_X7_isPlace l D E G x3) (va_cwS 1 htg (oh_gS q_1130 q_1131 q_73 q_1132) rfl rfl rfl pdX7_isPlace ⟨Nat.le_of_ble_eq_true rfl, Nat.le_of_ble_eq_true rfl⟩) hK va_nil hG hS rfl hl.1 rfl (Nat.le_of_ble_eq_true rfl) dX7_most_16 ⟨Nat.le_of_ble_eq_true rfl, Nat.le_of_ble_eq_true rfl⟩ (fun r_20 hq_21 => ?_)
      refine lv_if_ne (tgt := 29) hx hb dX7_most_19 (by decide) (fun (c_22 : ¬ (r_20 = 0)) => ?_) (fun (c_22 : r_20 = 0) => ?_)
      · have u_23 := hq_21.2.1 c_22
        refine lv_aload_n hx hb dX7_most_29 rfl (lv_at hl 0 rfl) ?_
        refine va_get (D := D) (ci := 7) (v := .ref (a 13)) (C := RX7) (T := TX7) (N := 29) hx hb htg ig_7 hown hK hP 0 (oh_wg (Nat.lt_of_lt_of_le (by decide) hn) (sM_0 hT)) rfl 17 (by decide) (htg _ q_990) (fun _ h9 => h9) rfl dX7_most_30 ?_
        refine lv_iconst (v := 0) hx hb dX7_most_33 (by decide) ?_
        refine th_iald hx hb hK hP 13 (Nat.lt_of_lt_of_le (by decide) hn) (sM_13 hT) (rg_in (rg_c (v := 0) (lo := 0) (hi := 0) (by decide)) (by decide)) dX7_most_34 ?_
        refine lv_istore (lv' := [(4, .int (ga (C 13) ((0 : Int32)).toNatClampNeg)), (0, .ref (a 0)), (1, .int x1), (2, .int x2), (3, .int x3)]) hx hb dX7_most_35 hl (by decide) rfl (fun ls hl => ?_)
        refine lv_iconst (v := (-1)) hx hb dX7_most_37 (by decide) ?_
        refine lv_istore (lv' := [(5, .int (-1)), (4, .int (ga (C 13) ((0 : Int32)).toNatClampNeg)), (0, .ref (a 0)), (1, .int x1), (2, .int x2), (3, .int x3)]) hx hb dX7_most_38 hl (by decide) rfl (fun ls hl => ?_)
        refine lv_iconst (v := 0) hx hb dX7_most_40 (by decide) ?_
        refine lv_istore (lv' := [(6, .int 0), (5, .int (-1)), (4, .int (ga (C 13) ((0 : Int32)).toNatClampNeg)), (0, .ref (a 0)), (1, .int x1), (2, .int x2), (3, .int x3)]) hx hb dX7_most_41 hl (by decide) rfl (fun ls hl => ?_)
        refine lv_sipush (v := 900) hx hb dX7_most_43 (by decide) ?_
        refine lv_istore (lv' := [(7, .int 900), (6, .int 0), (5, .int (-1)), (4, .int (ga (C 13) ((0 : Int32)).toNatClampNeg)), (0, .ref (a 0)), (1, .int x1), (2, .int x2), (3, .int x3)]) hx hb dX7_most_46 hl (by decide) rfl (fun ls hl => ?_)
        have L_48 : ∀ (d : Nat) (K48 : Nat → va_E) (z48_7 : Int32) (z48_6 : Int32) (z48_5 : Int32) (H : Heap) (locs : List Loc) (ls : Array Slot), (z48_7.toInt - z48_6.toInt + 1).toNat = d → rg z48_7 (-1) 900 → rg z48_6 0 901 → (∀ j, j ≠ 0 → ga (K48 13) j = ga (C 13) j) → TyM a E K48 → fr [(8, 9), (13, 14), (15, 16)] [] C K48 → fr [(13, 14), (15, 16)] [] C K48 → va_P D vwCl (oh_W n a K48) H → va_D A (oh_W n a K48) → va_S A s.heap H locs → lv_has ls 8 [(7, .int z48_7), (6, .int z48_6), (5, .int z48_5), (4, .int (ga (C 13) ((0 : Int32)).toNatClampNeg)), (0, .ref (a 0)), (1, .int x1), (2, .int x2), (3, .int x3)] → W p l e ({ frames := 7, cells := 0, slots := 0, locals := 177 }) s m (([.ref (a 0), .int x1, .int x2, .int x3] : List Value).toArray) below meth c H locs 0 0 Q (F0 m 48 ls []) := by
          intro d
          induction d using Nat.strongRecOn with
          | ind d ih_48 =>
          intro K48 z48_7 z48_6 z48_5 H locs ls hd_48 hz48_7 hz48_6 hx_48 hT hF hLF_48 hP hD hS hl
          have t_24 := hT
          refine lv_iload hx hb dX7_most_48 (lv_at hl 1 rfl) ?_
          refine lv_iload hx hb dX7_most_50 (lv_at hl 0 rfl) ?_
          refine lv_icmp_gt (tgt := 115) hx hb dX7_most_52 (by decide) (fun (c_25 : z48_7 < z48_6) => ?_) (fun (c_25 : ¬ (z48_7 < z48_6)) => ?_)
          · refine lv_aload_n hx hb dX7_most_115 rfl (lv_at hl 4 rfl) ?_
            refine va_get (D := D) (ci := 7) (v := .ref (a 13)) (C := RX7) (T := TX7) (N := 29) hx hb htg ig_7 hown hK hP 0 (oh_wg (Nat.lt_of_lt_of_le (by decide) hn) (sM_0 hT)) rfl 17 (by decide) (htg _ q_990) (fun _ h9 => h9) rfl dX7_most_116 ?_
            refine lv_iconst (v := 0) hx hb dX7_most_119 (by decide) ?_
            refine lv_iload hx hb dX7_most_120 (lv_at hl 3 rfl) ?_
            refine th_iast (T := TyM a E) (Rl := fr [(8, 9), (13, 14), (15, 16)] [] C) hx hb hK hP hD hS 13 (Nat.lt_of_lt_of_le (by decide) hn) (sM_13 hT) (rg_in (rg_c (v := 0) (lo := 0) (hi := 0) (by decide)) (by decide)) (hT.up 13 (by decide) (tA_upd (tM_13 hT) tA_any)) (fr_st hF (by decide) (by decide)) dX7_most_122 (fun C_26 H locs e_27 hT hF hP hD hS => ?_)
            have t_28 := hT
            refine lv_iload hx hb dX7_most_123 (lv_at hl 2 rfl) ?_
            refine lv_iconst (v := (-1)) hx hb dX7_most_125 (by decide) ?_
            refine lv_icmp_ne (tgt := 138) hx hb dX7_most_126 (by decide) (fun (c_29 : ¬ (z48_5 = (-1))) => ?_) (fun (c_29 : z48_5 = (-1)) => ?_)
            · refine lv_iload hx hb dX7_most_138 (lv_at hl 2 rfl) ?_
              rw [hQ]
              exact W.iret (v := z48_5) hx hb hr (fun t ht hW => ⟨⟨z48_5, C_26, rfl, ⟨hT, hF, ⟨⟨hR.1.fr hF (by decide), hR.2.fr hF (by decide)⟩, (by rw [st_ga e_27]; exact upd0 (fun j hj => (hx_48 j hj)))⟩⟩, ⟨by rw [ht]; exact hP, hD⟩⟩, hS.F ht⟩) hS.2.2 dX7_most_140
            · refine lv_aload_n hx hb dX7_most_129 rfl (lv_at hl 4 rfl) ?_
              refine lv_bipush (v := (-5)) hx hb dX7_most_130 (by decide) ?_
              refine tm_V (As := [.int (-5)]) (rest := []) ⟨hx, hb, hml, hown, htg⟩ (c_X7_refuse l D E G _ a C_26 n hn hT ((-5) : Int32) (rg_w (rg_c (v := (-5)) (lo := (-5)) (hi := (-5)) (by decide)) (by decide))) (cwV 1 htg (oh_gV q_1071 q_1073 q_29 q_73 q_1074) rfl rfl rfl pdVX7_refuse ⟨Nat.le_of_ble_eq_true rfl, Nat.le_of_ble_eq_true rfl⟩) hK hP hD hG hS hA (va_recv hK hP (ci := 7) (q0 := 0) rfl (oh_wg (Nat.lt_of_lt_of_le (by decide) hn) (sM_0 hT))) rfl hl.1 rfl (Nat.le_of_ble_eq_true rfl) dX7_most_132 ⟨Nat.le_of_ble_eq_true rfl, Nat.le_of_ble_eq_true rfl⟩ (fun r_30 C_31 H locs hq_32 hP hD hS => ?_)
              obtain ⟨hT, f_33, hq_32⟩ := hq_32
              have hF := fr_tr hF f_33 (by decide) (by decide)
              refine W.widen (k := 0) (n := 0) (Nat.le_refl _) (Nat.le_refl _) ?_
              have t_34 := hT
              refine lv_goto (tgt := 140) hx hb dX7_most_135 (by decide) ?_
              rw [hQ]
              exact W.iret (v := r_30) hx hb hr (fun t ht hW => ⟨⟨r_30, C_31, rfl, ⟨hT, hF, ⟨⟨hR.1.fr hF (by decide), hR.2.fr hF (by decide)⟩, (by rw [(f_33.1 13 rfl (by decide)), st_ga e_27]; exact upd0 (fun j hj => (hx_48 j hj)))⟩⟩, ⟨by rw [ht]; exact hP, hD⟩⟩, hS.F ht⟩) hS.2.2 dX7_most_140
          · refine lv_aload_n hx hb dX7_most_55 rfl (lv_at hl 4 rfl) ?_
            refine va_get (D := D) (ci := 7) (v := .ref (a 13)) (C := RX7) (T := TX7) (N := 29) hx hb htg ig_7 hown hK hP 0 (oh_wg (Nat.lt_of_lt_of_le (by decide) hn) (sM_0 hT)) rfl 17 (by decide) (htg _ q_990) (fun _ h9 => h9) rfl dX7_most_56 ?_
            refine lv_iconst (v := 0) hx hb dX7_most_59 (by decide) ?_
            refine lv_iload hx hb dX7_most_60 (lv_at hl 1 rfl) ?_
            refine lv_iload hx hb dX7_most_62 (lv_at hl 0 rfl) ?_
            refine lv_iadd hx hb dX7_most_64 ?_
            refine lv_iconst (v := 2) hx hb dX7_most_65 (by decide) ?_
            refine lv_idiv hx hb dX7_most_66 (by decide) ?_
            refine th_iast (T := TyM a E) (Rl := fr [(8, 9), (13, 14), (15, 16)] [] C) hx hb hK hP hD hS 13 (Nat.lt_of_lt_of_le (by decide) hn) (sM_13 hT) (rg_in (rg_c (v := 0) (lo := 0) (hi := 0) (by decide)) (by decide)) (hT.up 13 (by decide) (tA_upd (tM_13 hT) tA_any)) (fr_st hF (by decide) (by decide)) dX7_most_67 (fun C_35 H locs e_36 hT hF hP hD hS => ?_)
            have t_37 := hT
            refine lv_aload_n hx hb dX7_most_68 rfl (lv_at hl 4 rfl) ?_
            refine lv_iload_n hx hb dX7_most_69 rfl (lv_at hl 5 rfl) ?_
            refine lv_iconst (v := 0) hx hb dX7_most_70 (by decide) ?_
            refine lv_iload_n hx hb dX7_most_71 rfl (lv_at hl 6 rfl) ?_
            refine lv_iload_n hx hb dX7_most_72 rfl (lv_at hl 7 rfl) ?_
            refine lv_iconst (v := 1) hx hb dX7_most_73 (by decide) ?_
            refine tm_V (As := [.int x1, .int 0, .int x2, .int x3, .int 1]) (rest := []) ⟨hx, hb, hml, hown, htg⟩ (c_X7_cheapestOf l D E G _ a C_35 n hn hT x1 (0 : Int32) x2 x3 (1 : Int32) (rg_w u_9.1 (by decide)) (rg_w u_19 (by decide)) (rg_w u_23 (by decide)) (oh_posU (rg_w u_9.1 (by decide)) (fun i hi => th_un e_36 (by omega)) (oh_posU (rg_w u_9.1 (by decide)) (fun i hi => hLF_48.1 _ (inR_out hi (by decide)) (by omega)) u_9.2.1))) (cwV 5 htg (oh_gV q_1347 q_1349 q_59 q_73 q_1350) rfl rfl rfl pdVX7_cheapestOf ⟨Nat.le_of_ble_eq_true rfl, Nat.le_of_ble_eq_true rfl⟩) hK hP hD hG hS hA (va_recv hK hP (ci := 7) (q0 := 0) rfl (oh_wg (Nat.lt_of_lt_of_le (by decide) hn) (sM_0 hT))) rfl hl.1 rfl (Nat.le_of_ble_eq_true rfl) dX7_most_74 ⟨Nat.le_of_ble_eq_true rfl, Nat.le_of_ble_eq_true rfl⟩ (fun r_38 C_39 H locs hq_40 hP hD hS => ?_)
            obtain ⟨hT, f_41, hq_40⟩ := hq_40
            have hF := fr_tr hF f_41 (by decide) (by decide)
            refine W.widen (k := 0) (n := 0) (Nat.le_refl _) (Nat.le_refl _) ?_
            have t_42 := hT
            refine lv_iconst (v := (-1)) hx hb dX7_most_77 (by decide) ?_
            refine lv_icmp_eq (tgt := 102) hx hb dX7_most_78 (by decide) (fun (c_43 : r_38 = (-1)) => ?_) (fun (c_43 : ¬ (r_38 = (-1))) => ?_)
            · refine lv_aload_n hx hb dX7_most_102 rfl (lv_at hl 4 rfl) ?_
              refine va_get (D := D) (ci := 7) (v := .ref (a 13)) (C := RX7) (T := TX7) (N := 29) hx hb htg ig_7 hown hK hP 0 (oh_wg (Nat.lt_of_lt_of_le (by decide) hn) (sM_0 hT)) rfl 17 (by decide) (htg _ q_990) (fun _ h9 => h9) rfl dX7_most_103 ?_
              refine lv_iconst (v := 0) hx hb dX7_most_106 (by decide) ?_
              refine th_iald hx hb hK hP 13 (Nat.lt_of_lt_of_le (by decide) hn) (Eq.trans (f_41.1 13 rfl (by decide)) (sM_13 t_37)) (rg_in (rg_c (v := 0) (lo := 0) (hi := 0) (by decide)) (by decide)) dX7_most_107 ?_
              refine lv_iconst (v := 1) hx hb dX7_most_108 (by decide) ?_
              refine lv_isub hx hb dX7_most_109 ?_
              refine lv_istore (lv' := [(7, .int ((ga (C_35 13) ((0 : Int32)).toNatClampNeg) - 1)), (6, .int z48_6), (5, .int z48_5), (4, .int (ga (C 13) ((0 : Int32)).toNatClampNeg)), (0, .ref (a 0)), (1, .int x1), (2, .int x2), (3, .int x3)]) hx hb dX7_most_110 hl (by decide) rfl (fun ls hl => ?_)
              refine lv_goto (tgt := 48) hx hb dX7_most_112 (by decide) ?_
              exact ih_48 _ (hd_48 ▸ (oh_midd (by rw [st_ga e_36]; exact pk_us) (oh_mid hz48_6 hz48_7 (Int32.not_lt.mp c_25))).2) C_39 ((ga (C_35 13) ((0 : Int32)).toNatClampNeg) - 1) z48_6 z48_5 _ _ ls rfl (oh_midd (p := z48_6) (by rw [st_ga e_36]; exact pk_us) (oh_mid hz48_6 hz48_7 (Int32.not_lt.mp c_25))).1 hz48_6 (fun j hj => (Eq.trans (congrArg (fun z => ga z j) (f_41.1 13 rfl (by decide))) (Eq.trans (show ga (C_35 13) j = ga (K48 13) j by rw [st_ga e_36]; exact pk_un hj) (hx_48 j hj)))) hT hF (fr_tr (fr_ste hLF_48 e_36 (by decide) (by decide)) f_41 (by decide) (by decide)) hP hD hS (lv_sub hl [0, 1, 2, 3, 4, 5, 6, 7] rfl)
            · refine lv_aload_n hx hb dX7_most_81 rfl (lv_at hl 4 rfl) ?_
              refine va_get (D := D) (ci := 7) (v := .ref (a 13)) (C := RX7) (T := TX7) (N := 29) hx hb htg ig_7 hown hK hP 0 (oh_wg (Nat.lt_of_lt_of_le (by decide) hn) (sM_0 hT)) rfl 17 (by decide) (htg _ q_990) (fun _ h9 => h9) rfl dX7_most_82 ?_
              refine lv_iconst (v := 0) hx hb dX7_most_85 (by decide) ?_
              refine th_iald hx hb hK hP 13 (Nat.lt_of_lt_of_le (by decide) hn) (Eq.trans (f_41.1 13 rfl (by decide)) (sM_13 t_37)) (rg_in (rg_c (v := 0) (lo := 0) (hi := 0) (by decide)) (by decide)) dX7_most_86 ?_
              refine lv_istore (lv' := [(5, .int (ga (C_35 13) ((0 : Int32)).toNatClampNeg)), (7, .int z48_7), (6, .int z48_6), (4, .int (ga (C 13) ((0 : Int32)).toNatClampNeg)), (0, .ref (a 0)), (1, .int x1), (2, .int x2), (3, .int x3)]) hx hb dX7_most_87 hl (by decide) rfl (fun ls hl => ?_)
              refine lv_aload_n hx hb dX7_most_89 rfl (lv_at hl 4 rfl) ?_
              refine va_get (D := D) (ci := 7) (v := .ref (a 13)) (C := RX7) (T := TX7) (N := 29) hx hb htg ig_7 hown hK hP 0 (oh_wg (Nat.lt_of_lt_of_le (by decide) hn) (sM_0 hT)) rfl 17 (by decide) (htg _ q_990) (fun _ h9 => h9) rfl dX7_most_90 ?_
              refine lv_iconst (v := 0) hx hb dX7_most_93 (by decide) ?_
              refine th_iald hx hb hK hP 13 (Nat.lt_of_lt_of_le (by decide) hn) (Eq.trans (f_41.1 13 rfl (by decide)) (sM_13 t_37)) (rg_in (rg_c (v := 0) (lo := 0) (hi := 0) (by decide)) (by decide)) dX7_most_94 ?_
              refine lv_iconst (v := 1) hx hb dX7_most_95 (by decide) ?_
              refine lv_iadd hx hb dX7_most_96 ?_
              refine lv_istore (lv' := [(6, .int ((ga (C_35 13) ((0 : Int32)).toNatClampNeg) + 1)), (5, .int (ga (C_35 13) ((0 : Int32)).toNatClampNeg)), (7, .int z48_7), (4, .int (ga (C 13) ((0 : Int32)).toNatClampNeg)), (0, .ref (a 0)), (1, .int x1), (2, .int x2), (3, .int x3)]) hx hb dX7_most_97 hl (by decide) rfl (fun ls hl => ?_)
              refine lv_goto (tgt := 48) hx hb dX7_most_99 (by decide) ?_
              exact ih_48 _ (hd_48 ▸ (oh_midu (by rw [st_ga e_36]; exact pk_us) (oh_mid hz48_6 hz48_7 (Int32.not_lt.mp c_25))).2) C_39 z48_7 ((ga (C_35 13) ((0 : Int32)).toNatClampNeg) + 1) (ga (C_35 13) ((0 : Int32)).toNatClampNeg) _ _ ls rfl hz48_7 (oh_midu (q := z48_7) (by rw [st_ga e_36]; exact pk_us) (oh_mid hz48_6 hz48_7 (Int32.not_lt.mp c_25))).1 (fun j hj => (Eq.trans (congrArg (fun z => ga z j) (f_41.1 13 rfl (by decide))) (Eq.trans (show ga (C_35 13) j = ga (K48 13) j by rw [st_ga e_36]; exact pk_un hj) (hx_48 j hj)))) hT hF (fr_tr (fr_ste hLF_48 e_36 (by decide) (by decide)) f_41 (by decide) (by decide)) hP hD hS (lv_sub hl [2, 0, 1, 3, 4, 5, 6, 7] rfl)
        exact L_48 _ C 900 0 (-1) _ _ ls rfl (rg_w (rg_c (v := 900) (lo := 900) (hi := 900) (by decide)) (by decide)) (rg_w (rg_c (v := 0) (lo := 0) (hi := 0) (by decide)) (by decide)) (fun j hj => rfl) hT hF fr_rf hP hD hS (lv_sub hl [0, 1, 2, 3, 4, 5, 6, 7] rfl)
      · have u_44 := hq_21.2.2 c_22
        refine lv_aload_n hx hb dX7_most_22 rfl (lv_at hl 0 rfl) ?_
        refine lv_bipush (v := (-2)) hx hb dX7_most_23 (by decide) ?_
        refine tm_V (As := [.int (-2)]) (rest := []) ⟨hx, hb, hml, hown, htg⟩ (c_X7_refuse l D E G _ a C n hn hT ((-2) : Int32) (rg_w (rg_c (v := (-2)) (lo := (-2)) (hi := (-2)) (by decide)) (by decide))) (cwV 1 htg (oh_gV q_1071 q_1073 q_29 q_73 q_1074) rfl rfl rfl pdVX7_refuse ⟨Nat.le_of_ble_eq_true rfl, Nat.le_of_ble_eq_true rfl⟩) hK hP hD hG hS hA (va_recv hK hP (ci := 7) (q0 := 0) rfl (oh_wg (Nat.lt_of_lt_of_le (by decide) hn) (sM_0 hT))) rfl hl.1 rfl (Nat.le_of_ble_eq_true rfl) dX7_most_25 ⟨Nat.le_of_ble_eq_true rfl, Nat.le_of_ble_eq_true rfl⟩ (fun r_45 C_46 H locs hq_47 hP hD hS => ?_)
        obtain ⟨hT, f_48, hq_47⟩ := hq_47
        have hF := fr_tr hF f_48 (by decide) (by decide)
        refine W.widen (k := 0) (n := 0) (Nat.le_refl _) (Nat.le_refl _) ?_
        have t_49 := hT
        rw [hQ]
        exact W.iret (v := r_45) hx hb hr (fun t ht hW => ⟨⟨r_45, C_46, rfl, ⟨hT, hF, ⟨⟨hR.1.fr hF (by decide), hR.2.fr hF (by decide)⟩, (congrArg ga (f_48.1 13 rfl (by decide)))⟩⟩, ⟨by rw [ht]; exact hP, hD⟩⟩, hS.F ht⟩) hS.2.2 dX7_most_28

set_option maxHeartbeats 4000000 in
set_option maxRecDepth 100000 in
theorem e_X7_frost (l : Launch) (D : va_G) (E : Nat → ClassId) (G : Nat → Nat) (sz : Nat) (a : Nat → Nat) (C : Nat → va_E) (n : Nat) (hn : 74 ≤ n) (hT : TyM a E C) (x1 : Int32) (x2 : Int32) (x3 : Int32) (x4 : Int32) (x5 : Int32) (x6 : Int32) (x7 : Int32) (hR : RelM C) : Met l yX7_frost (oh_w yX7_frost cX7_frost 19 (some .long)) ({ frames := 7, cells := 0, slots := 0, locals := 177 }) (oh_Pm D E G [.ref (a 0), .int x1, .int x2, .int x3, .int x4, .int x5, .int x6, .int x7] (oh_W n a C) sz) (va_Ql (fun r (u : Nat → va_E) => TyM a E u ∧ fr [(8, 9), (13, 14), (15, 16)] [] C u ∧ (RelM u) ∧ (ga (u 13) = ga (C 13))) (oh_B D (va_A (oh_W n a C) sz) (fun u => oh_W n a u)) (va_A (oh_W n a C) sz)) 0 0 (va_A (oh_W n a C) sz) := by
  refine Met.ofW (cc := cX7_frost) (maxL := 19) (ret := (some .long)) (by decide) rfl ?_
  intro p e s m args below meth c s₁ B hml hv
  obtain ⟨rfl, hsz, hP, hK, hD0, hG⟩ := hv
  have hx := B.exec
  have hb := B.bytes
  have hr := B.returns
  have hts := atoms_spec (ws := (oh_w yX7_frost cX7_frost 19 (some .long))) B.pre
  have htg : ∀ w ∈ oh_t, w.before _ s = true := fun w h => hts w (List.mem_cons_of_mem _ h)
  have hown : s.vm.findClass RX7 = some m.cls := findClass_of_methodNamed B.named
  have hlocks := B.notSynchronized
  have hT0 := hT
  subst hsz
  have hD := hD0.self (sz := s.heap.size)
  generalize hAe : va_A (oh_W n a C) s.heap.size = A at hD hG ⊢
  have hA : ∀ q : Nat, s.heap.size ≤ q → A q := fun q h => by rw [← hAe]; exact Or.inr h
  have hS : va_S A s.heap s.heap [] := va_S.rf
  have hF : fr [(8, 9), (13, 14), (15, 16)] [] C C := fr_rf
  have hl := lv_entry ([.ref (a 0), .int x1, .int x2, .int x3, .int x4, .int x5, .int x6, .int x7]) (n := 19) (Nat.le_of_ble_eq_true rfl)
  rw [lg_entry_eq]
  generalize (lg_sl ([.ref (a 0), .int x1, .int x2, .int x3, .int x4, .int x5, .int x6, .int x7]) ++ List.replicate (19 - (lg_sl ([.ref (a 0), .int x1, .int x2, .int x3, .int x4, .int x5, .int x6, .int x7])).length) Slot.unset).toArray = ls at hl ⊢
  have hl : lv_has ls 19 [(0, .ref (a 0)), (1, .int x1), (2, .int x2), (3, .int x3), (4, .int x4), (5, .int x5), (6, .int x6), (7, .int x7)] := hl
  refine oh_genQ (fun Q hQ => ?_)
  refine lv_aload_n hx hb dX7_frost_0 rfl (lv_at hl 0 rfl) ?_
  refine lv_iload_n hx hb dX7_frost_1 rfl (lv_at hl 1 rfl) ?_
  refine lv_iload_n hx hb dX7_frost_2 rfl (lv_at hl 2 rfl) ?_
  refine tq_V (As := [.int x1, .int x2]) (rest := []) (ws := (oh_W n a C)) ⟨hx, hb, hml, hown, htg⟩ (c_X7_isPack l D E G a C n hn hT x1 x2 hR.1) (cwV 2 htg (oh_gV q_1290 q_1292 q_50 q_73 q_1293) rfl rfl rfl pdVX7_isPack ⟨Nat.le_of_ble_eq_true rfl, Nat.le_of_ble_eq_true rfl⟩) hK hP hG hS (va_recv hK hP (ci := 7) (q0 := 0) rfl (oh_wg (Nat.lt_of_lt_of_le (by decide) hn) (sM_0 hT))) rfl hl.1 rfl (Nat.le_of_ble_eq_true rfl) dX7_frost_3 ⟨Nat.le_of_ble_eq_true rfl, Nat.le_of_ble_eq_true rfl⟩ (fun r_1 hq_2 => ?_)
  refine lv_if_eq (tgt := 41) hx hb dX7_frost_6 (by decide) (fun (c_3 : r_1 = 0) => ?_) (fun (c_3 : ¬ (r_1 = 0)) => ?_)
  · refine lv_iconst (v := 0) hx hb dX7_frost_41 (by decide) ?_
    refine lv_istore (lv' := [(8, .int 0), (0, .ref (a 0)), (1, .int x1), (2, .int x2), (3, .int x3), (4, .int x4), (5, .int x5), (6, .int x6), (7, .int x7)]) hx hb dX7_frost_42 hl (by decide) rfl (fun ls hl => ?_)
    refine lv_iload hx hb dX7_frost_44 (lv_at hl 0 rfl) ?_
    refine lv_if_eq (tgt := 75) hx hb dX7_frost_46 (by decide) (fun _ => ?_) (fun c => absurd (show (0 : Int32) = 0 from by decide) c)
    refine lv_aload_n hx hb dX7_frost_75 rfl (lv_at hl 1 rfl) ?_
    refine lv_bipush (v := (-2)) hx hb dX7_frost_76 (by decide) ?_
    refine tm_V (As := [.int (-2)]) (rest := []) ⟨hx, hb, hml, hown, htg⟩ (c_X7_refuse l D E G _ a C n hn hT ((-2) : Int32) (rg_w (rg_c (v := (-2)) (lo := (-2)) (hi := (-2)) (by decide)) (by decide))) (cwV 1 htg (oh_gV q_1071 q_1073 q_29 q_73 q_1074) rfl rfl rfl pdVX7_refuse ⟨Nat.le_of_ble_eq_true rfl, Nat.le_of_ble_eq_true rfl⟩) hK hP hD hG hS hA (va_recv hK hP (ci := 7) (q0 := 0) rfl (oh_wg (Nat.lt_of_lt_of_le (by decide) hn) (sM_0 hT))) rfl hl.1 rfl (Nat.le_of_ble_eq_true rfl) dX7_frost_78 ⟨Nat.le_of_ble_eq_true rfl, Nat.le_of_ble_eq_true rfl⟩ (fun r_4 C_5 H locs hq_6 hP hD hS => ?_)
    obtain ⟨hT, f_7, hq_6⟩ := hq_6
    have hF := fr_tr hF f_7 (by decide) (by decide)
    refine W.widen (k := 0) (n := 0) (Nat.le_refl _) (Nat.le_refl _) ?_
    have t_8 := hT
    refine lv_i2l (v := Int32.toInt64 r_4) hx hb dX7_frost_81 (by rfl) ?_
    rw [hQ]
    exact W.lret (v := Int32.toInt64 r_4) hx hb hr (fun t ht hW => ⟨⟨Int32.toInt64 r_4, C_5, rfl, ⟨hT, hF, ⟨⟨hR.1.fr hF (by decide), hR.2.fr hF (by decide)⟩, (congrArg ga (f_7.1 13 rfl (by decide)))⟩⟩, ⟨by rw [ht]; exact hP, hD⟩⟩, hS.F ht⟩) hS.2.2 dX7_frost_82
  · have u_9 := hq_2.2 c_3
    refine lv_iload_n hx hb dX7_frost_9 rfl (lv_at hl 3 rfl) ?_
    refine tq_S (As := [.int x3]) (rest := []) (ws := []) ⟨hx, hb, hml, hown, htg⟩ (e_X7_isPlace l D E G x3) (va_cwS 1 htg (oh_gS q_1130 q_1131 q_73 q_1132) rfl rfl rfl pdX7_isPlace ⟨Nat.le_of_ble_eq_true rfl, Nat.le_of_ble_eq_true rfl⟩) hK va_nil hG hS rfl hl.1 rfl (Nat.le_of_ble_eq_true rfl) dX7_frost_10 ⟨Nat.le_of_ble_eq_true rfl, Nat.le_of_ble_eq_true rfl⟩ (fun r_10 hq_11 => ?_)
    refine lv_if_eq (tgt := 41) hx hb dX7_frost_13 (by decide) (fun (c_12 : r_10 = 0) => ?_) (fun (c_12 : ¬ (r_10 = 0)) => ?_)
    · have u_13 := hq_11.2.2 c_12
      refine lv_iconst (v := 0) hx hb dX7_frost_41 (by decide) ?_
      refine lv_istore (lv' := [(8, .int 0), (0, .ref (a 0)), (1, .int x1), (2, .int x2), (3, .int x3), (4, .int x4), (5, .int x5), (6, .int x6), (7, .int x7)]) hx hb dX7_frost_42 hl (by decide) rfl (fun ls hl => ?_)
      refine lv_iload hx hb dX7_frost_44 (lv_at hl 0 rfl) ?_
      refine lv_if_eq (tgt := 75) hx hb dX7_frost_46 (by decide) (fun _ => ?_) (fun c => absurd (show (0 : Int32) = 0 from by decide) c)
      refine lv_aload_n hx hb dX7_frost_75 rfl (lv_at hl 1 rfl) ?_
      refine lv_bipush (v := (-2)) hx hb dX7_frost_76 (by decide) ?_
      refine tm_V (As := [.int (-2)]) (rest := []) ⟨hx, hb, hml, hown, htg⟩ (c_X7_refuse l D E G _ a C n hn hT ((-2) : Int32) (rg_w (rg_c (v := (-2)) (lo := (-2)) (hi := (-2)) (by decide)) (by decide))) (cwV 1 htg (oh_gV q_1071 q_1073 q_29 q_73 q_1074) rfl rfl rfl pdVX7_refuse ⟨Nat.le_of_ble_eq_true rfl, Nat.le_of_ble_eq_true rfl⟩) hK hP hD hG hS hA (va_recv hK hP (ci := 7) (q0 := 0) rfl (oh_wg (Nat.lt_of_lt_of_le (by decide) hn) (sM_0 hT))) rfl hl.1 rfl (Nat.le_of_ble_eq_true rfl) dX7_frost_78 ⟨Nat.le_of_ble_eq_true rfl, Nat.le_of_ble_eq_true rfl⟩ (fun r_14 C_15 H locs hq_16 hP hD hS => ?_)
      obtain ⟨hT, f_17, hq_16⟩ := hq_16
      have hF := fr_tr hF f_17 (by decide) (by decide)
      refine W.widen (k := 0) (n := 0) (Nat.le_refl _) (Nat.le_refl _) ?_
      have t_18 := hT
      refine lv_i2l (v := Int32.toInt64 r_14) hx hb dX7_frost_81 (by rfl) ?_
      rw [hQ]
      exact W.lret (v := Int32.toInt64 r_14) hx hb hr (fun t ht hW => ⟨⟨Int32.toInt64 r_14, C_15, rfl, ⟨hT, hF, ⟨⟨hR.1.fr hF (by decide), hR.2.fr hF (by decide)⟩, (congrArg ga (f_17.1 13 rfl (by decide)))⟩⟩, ⟨by rw [ht]; exact hP, hD⟩⟩, hS.F ht⟩) hS.2.2 dX7_frost_82
    · have u_19 := hq_11.2.1 c_12
      refine lv_iload hx hb dX7_frost_16 (lv_at hl 4 rfl) ?_
      refine tq_S (As := [.int x4]) (rest := []) (ws := []) ⟨hx, hb, hml, hown, htg⟩ (e_X7_isPlace l D E G x4) (va_cwS 1 htg (oh_gS q_1130 q_1131 q_73 q_1132) rfl rfl rfl pdX7_isPlace ⟨Nat.le_of_ble_eq_true rfl, Nat.le_of_ble_eq_true rfl⟩) hK va_nil hG hS rfl hl.1 rfl (Nat.le_of_ble_eq_true rfl) dX7_frost_18 ⟨Nat.le_of_ble_eq_true rfl, Nat.le_of_ble_eq_true rfl⟩ (fun r_20 hq_21 => ?_)
      refine lv_if_eq (tgt := 41) hx hb dX7_frost_21 (by decide) (fun (c_22 : r_20 = 0) => ?_) (fun (c_22 : ¬ (r_20 = 0)) => ?_)
      · have u_23 := hq_21.2.2 c_22
        refine lv_iconst (v := 0) hx hb dX7_frost_41 (by decide) ?_
        refine lv_istore (lv' := [(8, .int 0), (0, .ref (a 0)), (1, .int x1), (2, .int x2), (3, .int x3), (4, .int x4), (5, .int x5), (6, .int x6), (7, .int x7)]) hx hb dX7_frost_42 hl (by decide) rfl (fun ls hl => ?_)
        refine lv_iload hx hb dX7_frost_44 (lv_at hl 0 rfl) ?_
        refine lv_if_eq (tgt := 75) hx hb dX7_frost_46 (by decide) (fun _ => ?_) (fun c => absurd (show (0 : Int32) = 0 from by decide) c)
        refine lv_aload_n hx hb dX7_frost_75 rfl (lv_at hl 1 rfl) ?_
        refine lv_bipush (v := (-2)) hx hb dX7_frost_76 (by decide) ?_
        refine tm_V (As := [.int (-2)]) (rest := []) ⟨hx, hb, hml, hown, htg⟩ (c_X7_refuse l D E G _ a C n hn hT ((-2) : Int32) (rg_w (rg_c (v := (-2)) (lo := (-2)) (hi := (-2)) (by decide)) (by decide))) (cwV 1 htg (oh_gV q_1071 q_1073 q_29 q_73 q_1074) rfl rfl rfl pdVX7_refuse ⟨Nat.le_of_ble_eq_true rfl, Nat.le_of_ble_eq_true rfl⟩) hK hP hD hG hS hA (va_recv hK hP (ci := 7) (q0 := 0) rfl (oh_wg (Nat.lt_of_lt_of_le (by decide) hn) (sM_0 hT))) rfl hl.1 rfl (Nat.le_of_ble_eq_true rfl) dX7_frost_78 ⟨Nat.le_of_ble_eq_true rfl, Nat.le_of_ble_eq_true rfl⟩ (fun r_24 C_25 H locs hq_26 hP hD hS => ?_)
        obtain ⟨hT, f_27, hq_26⟩ := hq_26
        have hF := fr_tr hF f_27 (by decide) (by decide)
        refine W.widen (k := 0) (n := 0) (Nat.le_refl _) (Nat.le_refl _) ?_
        have t_28 := hT
        refine lv_i2l (v := Int32.toInt64 r_24) hx hb dX7_frost_81 (by rfl) ?_
        rw [hQ]
        exact W.lret (v := Int32.toInt64 r_24) hx hb hr (fun t ht hW => ⟨⟨Int32.toInt64 r_24, C_25, rfl, ⟨hT, hF, ⟨⟨hR.1.fr hF (by decide), hR.2.fr hF (by decide)⟩, (congrArg ga (f_27.1 13 rfl (by decide)))⟩⟩, ⟨by rw [ht]; exact hP, hD⟩⟩, hS.F ht⟩) hS.2.2 dX7_frost_82
      · have u_29 := hq_21.2.1 c_22
        refine lv_iload hx hb dX7_frost_24 (lv_at hl 5 rfl) ?_
        refine lv_i2l (v := Int32.toInt64 x5) hx hb dX7_frost_26 (by rfl) ?_
        refine lv_lconst (v := 0) hx hb dX7_frost_27 (by decide) ?_
        refine lv_ldc2 (v := 6) hx hb hown (htg _ q_1265) dX7_frost_28 ?_
        refine tq_S (As := [.long (Int32.toInt64 x5), .long 0, .long 6]) (rest := []) (ws := []) ⟨hx, hb, hml, hown, htg⟩ (c_X7_in l D E G (Int32.toInt64 x5) (0 : Int64) (6 : Int64)) (va_cwS 3 htg (oh_gS q_1066 q_1067 q_73 q_1068) rfl rfl rfl pdX7_in ⟨Nat.le_of_ble_eq_true rfl, Nat.le_of_ble_eq_true rfl⟩) hK va_nil hG hS rfl hl.1 rfl (Nat.le_of_ble_eq_true rfl) dX7_frost_31 ⟨Nat.le_of_ble_eq_true rfl, Nat.le_of_ble_eq_true rfl⟩ (fun r_30 hq_31 => ?_)
        refine lv_if_eq (tgt := 41) hx hb dX7_frost_34 (by decide) (fun (c_32 : r_30 = 0) => ?_) (fun (c_32 : ¬ (r_30 = 0)) => ?_)
        · have u_33 := hq_31.2.2 c_32
          refine lv_iconst (v := 0) hx hb dX7_frost_41 (by decide) ?_
          refine lv_istore (lv' := [(8, .int 0), (0, .ref (a 0)), (1, .int x1), (2, .int x2), (3, .int x3), (4, .int x4), (5, .int x5), (6, .int x6), (7, .int x7)]) hx hb dX7_frost_42 hl (by decide) rfl (fun ls hl => ?_)
          refine lv_iload hx hb dX7_frost_44 (lv_at hl 0 rfl) ?_
          refine lv_if_eq (tgt := 75) hx hb dX7_frost_46 (by decide) (fun _ => ?_) (fun c => absurd (show (0 : Int32) = 0 from by decide) c)
          refine lv_aload_n hx hb dX7_frost_75 rfl (lv_at hl 1 rfl) ?_
          refine lv_bipush (v := (-2)) hx hb dX7_frost_76 (by decide) ?_
          refine tm_V (As := [.int (-2)]) (rest := []) ⟨hx, hb, hml, hown, htg⟩ (c_X7_refuse l D E G _ a C n hn hT ((-2) : Int32) (rg_w (rg_c (v := (-2)) (lo := (-2)) (hi := (-2)) (by decide)) (by decide))) (cwV 1 htg (oh_gV q_1071 q_1073 q_29 q_73 q_1074) rfl rfl rfl pdVX7_refuse ⟨Nat.le_of_ble_eq_true rfl, Nat.le_of_ble_eq_true rfl⟩) hK hP hD hG hS hA (va_recv hK hP (ci := 7) (q0 := 0) rfl (oh_wg (Nat.lt_of_lt_of_le (by decide) hn) (sM_0 hT))) rfl hl.1 rfl (Nat.le_of_ble_eq_true rfl) dX7_frost_78 ⟨Nat.le_of_ble_eq_true rfl, Nat.le_of_ble_eq_true rfl⟩ (fun r_34 C_35 H locs hq_36 hP hD hS => ?_)
          obtain ⟨hT, f_37, hq_36⟩ := hq_36
          have hF := fr_tr hF f_37 (by decide) (by decide)
          refine W.widen (k := 0) (n := 0) (Nat.le_refl _) (Nat.le_refl _) ?_
          have t_38 := hT
          refine lv_i2l (v := Int32.toInt64 r_34) hx hb dX7_frost_81 (by rfl) ?_
          rw [hQ]
          exact W.lret (v := Int32.toInt64 r_34) hx hb hr (fun t ht hW => ⟨⟨Int32.toInt64 r_34, C_35, rfl, ⟨hT, hF, ⟨⟨hR.1.fr hF (by decide), hR.2.fr hF (by decide)⟩, (congrArg ga (f_37.1 13 rfl (by decide)))⟩⟩, ⟨by rw [ht]; exact hP, hD⟩⟩, hS.F ht⟩) hS.2.2 dX7_frost_82
        · have u_39 := hq_31.2.1 c_32
          refine lv_iconst (v := 1) hx hb dX7_frost_37 (by decide) ?_
          refine lv_goto (tgt := 42) hx hb dX7_frost_38 (by decide) ?_
          refine lv_istore (lv' := [(8, .int 1), (0, .ref (a 0)), (1, .int x1), (2, .int x2), (3, .int x3), (4, .int x4), (5, .int x5), (6, .int x6), (7, .int x7)]) hx hb dX7_frost_42 hl (by decide) rfl (fun ls hl => ?_)
          refine lv_iload hx hb dX7_frost_44 (lv_at hl 0 rfl) ?_
          refine lv_if_eq (tgt := 75) hx hb dX7_frost_46 (by decide) (fun c => absurd c (show ¬ ((1 : Int32) = 0) from by decide)) (fun _ => ?_)
          refine lv_iload hx hb dX7_frost_49 (lv_at hl 7 rfl) ?_
          refine lv_i2l (v := Int32.toInt64 x6) hx hb dX7_frost_51 (by rfl) ?_
          refine lv_lconst (v := 0) hx hb dX7_frost_52 (by decide) ?_
          refine lv_ldc2 (v := 10) hx hb hown (htg _ q_1207) dX7_frost_53 ?_
          refine tq_S (As := [.long (Int32.toInt64 x6), .long 0, .long 10]) (rest := []) (ws := []) ⟨hx, hb, hml, hown, htg⟩ (c_X7_in l D E G (Int32.toInt64 x6) (0 : Int64) (10 : Int64)) (va_cwS 3 htg (oh_gS q_1066 q_1067 q_73 q_1068) rfl rfl rfl pdX7_in ⟨Nat.le_of_ble_eq_true rfl, Nat.le_of_ble_eq_true rfl⟩) hK va_nil hG hS rfl hl.1 rfl (Nat.le_of_ble_eq_true rfl) dX7_frost_56 ⟨Nat.le_of_ble_eq_true rfl, Nat.le_of_ble_eq_true rfl⟩ (fun r_40 hq_41 => ?_)
          refine lv_if_eq (tgt := 75) hx hb dX7_frost_59 (by decide) (fun (c_42 : r_40 = 0) => ?_) (fun (c_42 : ¬ (r_40 = 0)) => ?_)
          · have u_43 := hq_41.2.2 c_42
            refine lv_aload_n hx hb dX7_frost_75 rfl (lv_at hl 1 rfl) ?_
            refine lv_bipush (v := (-2)) hx hb dX7_frost_76 (by decide) ?_
            refine tm_V (As := [.int (-2)]) (rest := []) ⟨hx, hb, hml, hown, htg⟩ (c_X7_refuse l D E G _ a C n hn hT ((-2) : Int32) (rg_w (rg_c (v := (-2)) (lo := (-2)) (hi := (-2)) (by decide)) (by decide))) (cwV 1 htg (oh_gV q_1071 q_1073 q_29 q_73 q_1074) rfl rfl rfl pdVX7_refuse ⟨Nat.le_of_ble_eq_true rfl, Nat.le_of_ble_eq_true rfl⟩) hK hP hD hG hS hA (va_recv hK hP (ci := 7) (q0 := 0) rfl (oh_wg (Nat.lt_of_lt_of_le (by decide) hn) (sM_0 hT))) rfl hl.1 rfl (Nat.le_of_ble_eq_true rfl) dX7_frost_78 ⟨Nat.le_of_ble_eq_true rfl, Nat.le_of_ble_eq_true rfl⟩ (fun r_44 C_45 H locs hq_46 hP hD hS => ?_)
            obtain ⟨hT, f_47, hq_46⟩ := hq_46
            have hF := fr_tr hF f_47 (by decide) (by decide)
            refine W.widen (k := 0) (n := 0) (Nat.le_refl _) (Nat.le_refl _) ?_
            have t_48 := hT
            refine lv_i2l (v := Int32.toInt64 r_44) hx hb dX7_frost_81 (by rfl) ?_
            rw [hQ]
            exact W.lret (v := Int32.toInt64 r_44) hx hb hr (fun t ht hW => ⟨⟨Int32.toInt64 r_44, C_45, rfl, ⟨hT, hF, ⟨⟨hR.1.fr hF (by decide), hR.2.fr hF (by decide)⟩, (congrArg ga (f_47.1 13 rfl (by decide)))⟩⟩, ⟨by rw [ht]; exact hP, hD⟩⟩, hS.F ht⟩) hS.2.2 dX7_frost_82
          · have u_49 := hq_41.2.1 c_42
            refine lv_iload hx hb dX7_frost_62 (lv_at hl 8 rfl) ?_
            refine lv_i2l (v := Int32.toInt64 x7) hx hb dX7_frost_64 (by rfl) ?_
            refine lv_lconst (v := 0) hx hb dX7_frost_65 (by decide) ?_
            refine lv_ldc2 (v := 999) hx hb hown (htg _ q_1149) dX7_frost_66 ?_
            refine tq_S (As := [.long (Int32.toInt64 x7), .long 0, .long 999]) (rest := []) (ws := []) ⟨hx, hb, hml, hown, htg⟩ (c_X7_in l D E G (Int32.toInt64 x7) (0 : Int64) (999 : Int64)) (va_cwS 3 htg (oh_gS q_1066 q_1067 q_73 q_1068) rfl rfl rfl pdX7_in ⟨Nat.le_of_ble_eq_true rfl, Nat.le_of_ble_eq_true rfl⟩) hK va_nil hG hS rfl hl.1 rfl (Nat.le_of_ble_eq_true rfl) dX7_frost_69 ⟨Nat.le_of_ble_eq_true rfl, Nat.le_of_ble_eq_true rfl⟩ (fun r_50 hq_51 => ?_)
            refine lv_if_ne (tgt := 83) hx hb dX7_frost_72 (by decide) (fun (c_52 : ¬ (r_50 = 0)) => ?_) (fun (c_52 : r_50 = 0) => ?_)
            · have u_53 := hq_51.2.1 c_52
              refine lv_aload_n hx hb dX7_frost_83 rfl (lv_at hl 1 rfl) ?_
              refine va_get (D := D) (ci := 7) (v := .ref (a 13)) (C := RX7) (T := TX7) (N := 29) hx hb htg ig_7 hown hK hP 0 (oh_wg (Nat.lt_of_lt_of_le (by decide) hn) (sM_0 hT)) rfl 17 (by decide) (htg _ q_990) (fun _ h9 => h9) rfl dX7_frost_84 ?_
              refine lv_iconst (v := 2) hx hb dX7_frost_87 (by decide) ?_
              refine th_iald hx hb hK hP 13 (Nat.lt_of_lt_of_le (by decide) hn) (sM_13 hT) (rg_in (rg_c (v := 2) (lo := 2) (hi := 2) (by decide)) (by decide)) dX7_frost_88 ?_
              refine lv_istore (lv' := [(9, .int (ga (C 13) ((2 : Int32)).toNatClampNeg)), (8, .int 1), (0, .ref (a 0)), (1, .int x1), (2, .int x2), (3, .int x3), (4, .int x4), (5, .int x5), (6, .int x6), (7, .int x7)]) hx hb dX7_frost_89 hl (by decide) rfl (fun ls hl => ?_)
              refine lv_aload_n hx hb dX7_frost_91 rfl (lv_at hl 2 rfl) ?_
              refine va_get (D := D) (ci := 7) (v := .ref (a 13)) (C := RX7) (T := TX7) (N := 29) hx hb htg ig_7 hown hK hP 0 (oh_wg (Nat.lt_of_lt_of_le (by decide) hn) (sM_0 hT)) rfl 17 (by decide) (htg _ q_990) (fun _ h9 => h9) rfl dX7_frost_92 ?_
              refine lv_iconst (v := 2) hx hb dX7_frost_95 (by decide) ?_
              refine lv_iconst (v := 1) hx hb dX7_frost_96 (by decide) ?_
              refine th_iast (T := TyM a E) (Rl := fr [(8, 9), (13, 14), (15, 16)] [] C) hx hb hK hP hD hS 13 (Nat.lt_of_lt_of_le (by decide) hn) (sM_13 hT) (rg_in (rg_c (v := 2) (lo := 2) (hi := 2) (by decide)) (by decide)) (hT.up 13 (by decide) (tA_upd (tM_13 hT) tA_any)) (fr_st hF (by decide) (by decide)) dX7_frost_97 (fun C_54 H locs e_55 hT hF hP hD hS => ?_)
              have t_56 := hT
              refine lv_aload_n hx hb dX7_frost_98 rfl (lv_at hl 2 rfl) ?_
              refine lv_iload_n hx hb dX7_frost_99 rfl (lv_at hl 3 rfl) ?_
              refine lv_iload_n hx hb dX7_frost_100 rfl (lv_at hl 4 rfl) ?_
              refine lv_iload_n hx hb dX7_frost_101 rfl (lv_at hl 5 rfl) ?_
              refine lv_iload hx hb dX7_frost_102 (lv_at hl 6 rfl) ?_
              refine lv_iconst (v := 1) hx hb dX7_frost_104 (by decide) ?_
              refine tm_V (As := [.int x1, .int x2, .int x3, .int x4, .int 1]) (rest := []) ⟨hx, hb, hml, hown, htg⟩ (c_X7_cheapestOf l D E G _ a C_54 n hn hT x1 x2 x3 x4 (1 : Int32) (rg_w u_9.1 (by decide)) (rg_w u_19 (by decide)) (rg_w u_29 (by decide)) (oh_posU (rg_w u_9.1 (by decide)) (fun i hi => th_un e_55 (by omega)) u_9.2.1)) (cwV 5 htg (oh_gV q_1347 q_1349 q_59 q_73 q_1350) rfl rfl rfl pdVX7_cheapestOf ⟨Nat.le_of_ble_eq_true rfl, Nat.le_of_ble_eq_true rfl⟩) hK hP hD hG hS hA (va_recv hK hP (ci := 7) (q0 := 0) rfl (oh_wg (Nat.lt_of_lt_of_le (by decide) hn) (sM_0 hT))) rfl hl.1 rfl (Nat.le_of_ble_eq_true rfl) dX7_frost_105 ⟨Nat.le_of_ble_eq_true rfl, Nat.le_of_ble_eq_true rfl⟩ (fun r_57 C_58 H locs hq_59 hP hD hS => ?_)
              obtain ⟨hT, f_60, hq_59⟩ := hq_59
              have hF := fr_tr hF f_60 (by decide) (by decide)
              refine W.widen (k := 0) (n := 0) (Nat.le_refl _) (Nat.le_refl _) ?_
              have t_61 := hT
              refine lv_istore (lv' := [(10, .int r_57), (9, .int (ga (C 13) ((2 : Int32)).toNatClampNeg)), (8, .int 1), (0, .ref (a 0)), (1, .int x1), (2, .int x2), (3, .int x3), (4, .int x4), (5, .int x5), (6, .int x6), (7, .int x7)]) hx hb dX7_frost_108 hl (by decide) rfl (fun ls hl => ?_)
              refine lv_aload_n hx hb dX7_frost_110 rfl (lv_at hl 3 rfl) ?_
              refine va_get (D := D) (ci := 7) (v := .ref (a 13)) (C := RX7) (T := TX7) (N := 29) hx hb htg ig_7 hown hK hP 0 (oh_wg (Nat.lt_of_lt_of_le (by decide) hn) (sM_0 hT)) rfl 17 (by decide) (htg _ q_990) (fun _ h9 => h9) rfl dX7_frost_111 ?_
              refine lv_iconst (v := 2) hx hb dX7_frost_114 (by decide) ?_
              refine lv_iconst (v := 0) hx hb dX7_frost_115 (by decide) ?_
              refine th_iast (T := TyM a E) (Rl := fr [(8, 9), (13, 14), (15, 16)] [] C) hx hb hK hP hD hS 13 (Nat.lt_of_lt_of_le (by decide) hn) (sM_13 hT) (rg_in (rg_c (v := 2) (lo := 2) (hi := 2) (by decide)) (by decide)) (hT.up 13 (by decide) (tA_upd (tM_13 hT) tA_any)) (fr_st hF (by decide) (by decide)) dX7_frost_116 (fun C_62 H locs e_63 hT hF hP hD hS => ?_)
              have t_64 := hT
              refine lv_aload_n hx hb dX7_frost_117 rfl (lv_at hl 3 rfl) ?_
              refine lv_iload_n hx hb dX7_frost_118 rfl (lv_at hl 4 rfl) ?_
              refine lv_iload_n hx hb dX7_frost_119 rfl (lv_at hl 5 rfl) ?_
              refine lv_iload_n hx hb dX7_frost_120 rfl (lv_at hl 6 rfl) ?_
              refine lv_iload hx hb dX7_frost_121 (lv_at hl 7 rfl) ?_
              refine lv_iconst (v := 1) hx hb dX7_frost_123 (by decide) ?_
              refine tm_V (As := [.int x1, .int x2, .int x3, .int x4, .int 1]) (rest := []) ⟨hx, hb, hml, hown, htg⟩ (c_X7_cheapestOf l D E G _ a C_62 n hn hT x1 x2 x3 x4 (1 : Int32) (rg_w u_9.1 (by decide)) (rg_w u_19 (by decide)) (rg_w u_29 (by decide)) (oh_posU (rg_w u_9.1 (by decide)) (fun i hi => th_un e_63 (by omega)) (oh_posU (rg_w u_9.1 (by decide)) (fun i hi => f_60.1 _ (inR_out hi (by decide)) (by omega)) (oh_posU (rg_w u_9.1 (by decide)) (fun i hi => th_un e_55 (by omega)) u_9.2.1)))) (cwV 5 htg (oh_gV q_1347 q_1349 q_59 q_73 q_1350) rfl rfl rfl pdVX7_cheapestOf ⟨Nat.le_of_ble_eq_true rfl, Nat.le_of_ble_eq_true rfl⟩) hK hP hD hG hS hA (va_recv hK hP (ci := 7) (q0 := 0) rfl (oh_wg (Nat.lt_of_lt_of_le (by decide) hn) (sM_0 hT))) rfl hl.1 rfl (Nat.le_of_ble_eq_true rfl) dX7_frost_124 ⟨Nat.le_of_ble_eq_true rfl, Nat.le_of_ble_eq_true rfl⟩ (fun r_65 C_66 H locs hq_67 hP hD hS => ?_)
              obtain ⟨hT, f_68, hq_67⟩ := hq_67
              have hF := fr_tr hF f_68 (by decide) (by decide)
              refine W.widen (k := 0) (n := 0) (Nat.le_refl _) (Nat.le_refl _) ?_
              have t_69 := hT
              refine lv_istore (lv' := [(11, .int r_65), (10, .int r_57), (9, .int (ga (C 13) ((2 : Int32)).toNatClampNeg)), (8, .int 1), (0, .ref (a 0)), (1, .int x1), (2, .int x2), (3, .int x3), (4, .int x4), (5, .int x5), (6, .int x6), (7, .int x7)]) hx hb dX7_frost_127 hl (by decide) rfl (fun ls hl => ?_)
              refine lv_aload_n hx hb dX7_frost_129 rfl (lv_at hl 4 rfl) ?_
              refine va_get (D := D) (ci := 7) (v := .ref (a 13)) (C := RX7) (T := TX7) (N := 29) hx hb htg ig_7 hown hK hP 0 (oh_wg (Nat.lt_of_lt_of_le (by decide) hn) (sM_0 hT)) rfl 17 (by decide) (htg _ q_990) (fun _ h9 => h9) rfl dX7_frost_130 ?_
              refine lv_iconst (v := 2) hx hb dX7_frost_133 (by decide) ?_
              refine lv_iload hx hb dX7_frost_134 (lv_at hl 2 rfl) ?_
              refine th_iast (T := TyM a E) (Rl := fr [(8, 9), (13, 14), (15, 16)] [] C) hx hb hK hP hD hS 13 (Nat.lt_of_lt_of_le (by decide) hn) (sM_13 hT) (rg_in (rg_c (v := 2) (lo := 2) (hi := 2) (by decide)) (by decide)) (hT.up 13 (by decide) (tA_upd (tM_13 hT) tA_any)) (fr_st hF (by decide) (by decide)) dX7_frost_136 (fun C_70 H locs e_71 hT hF hP hD hS => ?_)
              have t_72 := hT
              refine lv_iload hx hb dX7_frost_137 (lv_at hl 0 rfl) ?_
              refine lv_iconst (v := (-1)) hx hb dX7_frost_139 (by decide) ?_
              refine lv_icmp_ne (tgt := 151) hx hb dX7_frost_140 (by decide) (fun (c_73 : ¬ (r_65 = (-1))) => ?_) (fun (c_73 : r_65 = (-1)) => ?_)
              · refine lv_iload hx hb dX7_frost_151 (lv_at hl 0 rfl) ?_
                refine lv_i2l (v := Int32.toInt64 r_65) hx hb dX7_frost_153 (by rfl) ?_
                refine lv_lstore (lv' := [(12, .long (Int32.toInt64 r_65)), (11, .int r_65), (10, .int r_57), (9, .int (ga (C 13) ((2 : Int32)).toNatClampNeg)), (8, .int 1), (0, .ref (a 0)), (1, .int x1), (2, .int x2), (3, .int x3), (4, .int x4), (5, .int x5), (6, .int x6), (7, .int x7)]) hx hb dX7_frost_154 hl (by decide) rfl (fun ls hl => ?_)
                refine lv_lconst (v := 1) hx hb dX7_frost_156 (by decide) ?_
                refine lv_lstore (lv' := [(14, .long 1), (12, .long (Int32.toInt64 r_65)), (11, .int r_65), (10, .int r_57), (9, .int (ga (C 13) ((2 : Int32)).toNatClampNeg)), (8, .int 1), (0, .ref (a 0)), (1, .int x1), (2, .int x2), (3, .int x3), (4, .int x4), (5, .int x5), (6, .int x6), (7, .int x7)]) hx hb dX7_frost_157 hl (by decide) rfl (fun ls hl => ?_)
                refine lv_iconst (v := 0) hx hb dX7_frost_159 (by decide) ?_
                refine lv_istore (lv' := [(16, .int 0), (14, .long 1), (12, .long (Int32.toInt64 r_65)), (11, .int r_65), (10, .int r_57), (9, .int (ga (C 13) ((2 : Int32)).toNatClampNeg)), (8, .int 1), (0, .ref (a 0)), (1, .int x1), (2, .int x2), (3, .int x3), (4, .int x4), (5, .int x5), (6, .int x6), (7, .int x7)]) hx hb dX7_frost_160 hl (by decide) rfl (fun ls hl => ?_)
                have L_162 : ∀ (d : Nat) (K162 : Nat → va_E) (z162_16 : Int32) (z162_14 : Int64) (z162_12 : Int64) (H : Heap) (locs : List Loc) (ls : Array Slot), (6 - z162_16.toInt).toNat = d → rg z162_16 0 6 → TyM a E K162 → fr [(8, 9), (13, 14), (15, 16)] [] C K162 → fr [] [] C_70 K162 → va_P D vwCl (oh_W n a K162) H → va_D A (oh_W n a K162) → va_S A s.heap H locs → lv_has ls 19 [(16, .int z162_16), (14, .long z162_14), (12, .long z162_12), (11, .int r_65), (10, .int r_57), (9, .int (ga (C 13) ((2 : Int32)).toNatClampNeg)), (8, .int 1), (0, .ref (a 0)), (1, .int x1), (2, .int x2), (3, .int x3), (4, .int x4), (5, .int x5), (6, .int x6), (7, .int x7)] → W p l e ({ frames := 7, cells := 0, slots := 0, locals := 177 }) s m (([.ref (a 0), .int x1, .int x2, .int x3, .int x4, .int x5, .int x6, .int x7] : List Value).toArray) below meth c H locs 0 0 Q (F0 m 162 ls []) := by
                  intro d
                  induction d using Nat.strongRecOn with
                  | ind d ih_162 =>
                  intro K162 z162_16 z162_14 z162_12 H locs ls hd_162 hz162_16 hT hF hLF_162 hP hD hS hl
                  have t_74 := hT
                  refine lv_iload hx hb dX7_frost_162 (lv_at hl 0 rfl) ?_
                  refine lv_iload hx hb dX7_frost_164 (lv_at hl 12 rfl) ?_
                  refine lv_icmp_ge (tgt := 241) hx hb dX7_frost_166 (by decide) (fun (c_75 : x5 ≤ z162_16) => ?_) (fun (c_75 : ¬ (x5 ≤ z162_16)) => ?_)
                  · refine lv_lload hx hb dX7_frost_241 (lv_at hl 2 rfl) ?_
                    rw [hQ]
                    exact W.lret (v := z162_12) hx hb hr (fun t ht hW => ⟨⟨z162_12, K162, rfl, ⟨hT, hF, ⟨⟨hR.1.fr hF (by decide), hR.2.fr hF (by decide)⟩, (by rw [(hLF_162.1 13 rfl (by decide)), (st_ga e_71), (f_68.1 13 rfl (by decide)), (st_ga e_63), (f_60.1 13 rfl (by decide)), (st_ga e_55)]; exact upd_b3)⟩⟩, ⟨by rw [ht]; exact hP, hD⟩⟩, hS.F ht⟩) hS.2.2 dX7_frost_243
                  · refine lv_ldc2 (v := 10) hx hb hown (htg _ q_1207) dX7_frost_169 ?_
                    refine lv_lload hx hb dX7_frost_172 (lv_at hl 1 rfl) ?_
                    refine lv_lmul hx hb dX7_frost_174 ?_
                    refine lv_iload hx hb dX7_frost_175 (lv_at hl 14 rfl) ?_
                    refine lv_i2l (v := Int32.toInt64 x7) hx hb dX7_frost_177 (by rfl) ?_
                    refine lv_lmul hx hb dX7_frost_178 ?_
                    refine lv_iload hx hb dX7_frost_179 (lv_at hl 13 rfl) ?_
                    refine lv_i2l (v := Int32.toInt64 x6) hx hb dX7_frost_181 (by rfl) ?_
                    refine lv_lload hx hb dX7_frost_182 (lv_at hl 1 rfl) ?_
                    refine lv_lmul hx hb dX7_frost_184 ?_
                    refine lv_iload hx hb dX7_frost_185 (lv_at hl 4 rfl) ?_
                    refine lv_i2l (v := Int32.toInt64 r_57) hx hb dX7_frost_187 (by rfl) ?_
                    refine lv_lmul hx hb dX7_frost_188 ?_
                    refine lv_ladd hx hb dX7_frost_189 ?_
                    refine lv_bipush (v := 10) hx hb dX7_frost_190 (by decide) ?_
                    refine lv_iload hx hb dX7_frost_192 (lv_at hl 13 rfl) ?_
                    refine lv_isub hx hb dX7_frost_194 ?_
                    refine lv_i2l (v := Int32.toInt64 (10 - x6)) hx hb dX7_frost_195 (by rfl) ?_
                    refine lv_lload hx hb dX7_frost_196 (lv_at hl 2 rfl) ?_
                    refine lv_lmul hx hb dX7_frost_198 ?_
                    refine lv_ladd hx hb dX7_frost_199 ?_
                    refine lv_lstore (lv' := [(17, .long ((((10 * z162_14) * (Int32.toInt64 x7)) + (((Int32.toInt64 x6) * z162_14) * (Int32.toInt64 r_57))) + ((Int32.toInt64 (10 - x6)) * z162_12))), (16, .int z162_16), (14, .long z162_14), (12, .long z162_12), (11, .int r_65), (10, .int r_57), (9, .int (ga (C 13) ((2 : Int32)).toNatClampNeg)), (8, .int 1), (0, .ref (a 0)), (1, .int x1), (2, .int x2), (3, .int x3), (4, .int x4), (5, .int x5), (6, .int x6), (7, .int x7)]) hx hb dX7_frost_200 hl (by decide) rfl (fun ls hl => ?_)
                    refine lv_lload hx hb dX7_frost_202 (lv_at hl 2 rfl) ?_
                    refine lv_ldc2 (v := 10) hx hb hown (htg _ q_1207) dX7_frost_204 ?_
                    refine lv_lmul hx hb dX7_frost_207 ?_
                    refine lv_lstore (lv' := [(14, .long (z162_14 * 10)), (17, .long ((((10 * z162_14) * (Int32.toInt64 x7)) + (((Int32.toInt64 x6) * z162_14) * (Int32.toInt64 r_57))) + ((Int32.toInt64 (10 - x6)) * z162_12))), (16, .int z162_16), (12, .long z162_12), (11, .int r_65), (10, .int r_57), (9, .int (ga (C 13) ((2 : Int32)).toNatClampNeg)), (8, .int 1), (0, .ref (a 0)), (1, .int x1), (2, .int x2), (3, .int x3), (4, .int x4), (5, .int x5), (6, .int x6), (7, .int x7)]) hx hb dX7_frost_208 hl (by decide) rfl (fun ls hl => ?_)
                    refine lv_lload hx hb dX7_frost_210 (lv_at hl 0 rfl) ?_
                    refine lv_iload hx hb dX7_frost_212 (lv_at hl 4 rfl) ?_
                    refine lv_i2l (v := Int32.toInt64 r_65) hx hb dX7_frost_214 (by rfl) ?_
                    refine lv_lmul hx hb dX7_frost_215 ?_
                    refine lv_lload hx hb dX7_frost_216 (lv_at hl 1 rfl) ?_
                    refine W.lcmp hx hb dX7_frost_218 ?_
                    refine lv_if_ge (tgt := 231) hx hb dX7_frost_219 (by decide) (fun (c_76 : (0 : Int32) ≤ (lg_cmp ((z162_14 * 10) * (Int32.toInt64 r_65)) ((((10 * z162_14) * (Int32.toInt64 x7)) + (((Int32.toInt64 x6) * z162_14) * (Int32.toInt64 r_57))) + ((Int32.toInt64 (10 - x6)) * z162_12)))) => ?_) (fun (c_76 : ¬ ((0 : Int32) ≤ (lg_cmp ((z162_14 * 10) * (Int32.toInt64 r_65)) ((((10 * z162_14) * (Int32.toInt64 x7)) + (((Int32.toInt64 x6) * z162_14) * (Int32.toInt64 r_57))) + ((Int32.toInt64 (10 - x6)) * z162_12))))) => ?_)
                    · refine lv_lload hx hb dX7_frost_231 (lv_at hl 1 rfl) ?_
                      refine lv_lstore (lv' := [(12, .long ((((10 * z162_14) * (Int32.toInt64 x7)) + (((Int32.toInt64 x6) * z162_14) * (Int32.toInt64 r_57))) + ((Int32.toInt64 (10 - x6)) * z162_12))), (14, .long (z162_14 * 10)), (17, .long ((((10 * z162_14) * (Int32.toInt64 x7)) + (((Int32.toInt64 x6) * z162_14) * (Int32.toInt64 r_57))) + ((Int32.toInt64 (10 - x6)) * z162_12))), (16, .int z162_16), (11, .int r_65), (10, .int r_57), (9, .int (ga (C 13) ((2 : Int32)).toNatClampNeg)), (8, .int 1), (0, .ref (a 0)), (1, .int x1), (2, .int x2), (3, .int x3), (4, .int x4), (5, .int x5), (6, .int x6), (7, .int x7)]) hx hb dX7_frost_233 hl (by decide) rfl (fun ls hl => ?_)
                      refine lv_iinc (v := z162_16 + 1) (lv' := [(16, .int (z162_16 + 1)), (12, .long ((((10 * z162_14) * (Int32.toInt64 x7)) + (((Int32.toInt64 x6) * z162_14) * (Int32.toInt64 r_57))) + ((Int32.toInt64 (10 - x6)) * z162_12))), (14, .long (z162_14 * 10)), (17, .long ((((10 * z162_14) * (Int32.toInt64 x7)) + (((Int32.toInt64 x6) * z162_14) * (Int32.toInt64 r_57))) + ((Int32.toInt64 (10 - x6)) * z162_12))), (11, .int r_65), (10, .int r_57), (9, .int (ga (C 13) ((2 : Int32)).toNatClampNeg)), (8, .int 1), (0, .ref (a 0)), (1, .int x1), (2, .int x2), (3, .int x3), (4, .int x4), (5, .int x5), (6, .int x6), (7, .int x7)]) hx hb dX7_frost_235 hl (k := 3) rfl (by rfl) (by decide) rfl (fun ls hl => ?_)
                      refine lv_goto (tgt := 162) hx hb dX7_frost_238 (by decide) ?_
                      exact ih_162 _ (hd_162 ▸ mu_up 6 (rn_ltu (u' := 5) (Int32.not_le.mp c_75) hz162_16 (rg_il (rgL_i (rg_il (rnL_leu u_39.2 (rnL_lel u_39.1 (rgL_c (v := 0) (lo := 0) (hi := 0) (by decide)) (rgL_i (rg_any _))) (rgL_c (v := 6) (lo := 6) (hi := 6) (by decide)))))) (by decide)) (by decide)) K162 (z162_16 + 1) (z162_14 * 10) ((((10 * z162_14) * (Int32.toInt64 x7)) + (((Int32.toInt64 x6) * z162_14) * (Int32.toInt64 r_57))) + ((Int32.toInt64 (10 - x6)) * z162_12)) _ _ ls rfl (rg_w (rg_add (lo := 1) (hi := 6) (rn_ltu (u' := 5) (Int32.not_le.mp c_75) hz162_16 (rg_il (rgL_i (rg_il (rnL_leu u_39.2 (rnL_lel u_39.1 (rgL_c (v := 0) (lo := 0) (hi := 0) (by decide)) (rgL_i (rg_any _))) (rgL_c (v := 6) (lo := 6) (hi := 6) (by decide)))))) (by decide)) (rg_c (v := 1) (lo := 1) (hi := 1) (by decide)) (by decide)) (by decide)) hT hF hLF_162 hP hD hS (lv_sub hl [0, 2, 1, 4, 5, 6, 7, 8, 9, 10, 11, 12, 13, 14, 15] rfl)
                    · refine lv_lload hx hb dX7_frost_222 (lv_at hl 0 rfl) ?_
                      refine lv_iload hx hb dX7_frost_224 (lv_at hl 4 rfl) ?_
                      refine lv_i2l (v := Int32.toInt64 r_65) hx hb dX7_frost_226 (by rfl) ?_
                      refine lv_lmul hx hb dX7_frost_227 ?_
                      refine lv_goto (tgt := 233) hx hb dX7_frost_228 (by decide) ?_
                      refine lv_lstore (lv' := [(12, .long ((z162_14 * 10) * (Int32.toInt64 r_65))), (14, .long (z162_14 * 10)), (17, .long ((((10 * z162_14) * (Int32.toInt64 x7)) + (((Int32.toInt64 x6) * z162_14) * (Int32.toInt64 r_57))) + ((Int32.toInt64 (10 - x6)) * z162_12))), (16, .int z162_16), (11, .int r_65), (10, .int r_57), (9, .int (ga (C 13) ((2 : Int32)).toNatClampNeg)), (8, .int 1), (0, .ref (a 0)), (1, .int x1), (2, .int x2), (3, .int x3), (4, .int x4), (5, .int x5), (6, .int x6), (7, .int x7)]) hx hb dX7_frost_233 hl (by decide) rfl (fun ls hl => ?_)
                      refine lv_iinc (v := z162_16 + 1) (lv' := [(16, .int (z162_16 + 1)), (12, .long ((z162_14 * 10) * (Int32.toInt64 r_65))), (14, .long (z162_14 * 10)), (17, .long ((((10 * z162_14) * (Int32.toInt64 x7)) + (((Int32.toInt64 x6) * z162_14) * (Int32.toInt64 r_57))) + ((Int32.toInt64 (10 - x6)) * z162_12))), (11, .int r_65), (10, .int r_57), (9, .int (ga (C 13) ((2 : Int32)).toNatClampNeg)), (8, .int 1), (0, .ref (a 0)), (1, .int x1), (2, .int x2), (3, .int x3), (4, .int x4), (5, .int x5), (6, .int x6), (7, .int x7)]) hx hb dX7_frost_235 hl (k := 3) rfl (by rfl) (by decide) rfl (fun ls hl => ?_)
                      refine lv_goto (tgt := 162) hx hb dX7_frost_238 (by decide) ?_
                      exact ih_162 _ (hd_162 ▸ mu_up 6 (rn_ltu (u' := 5) (Int32.not_le.mp c_75) hz162_16 (rg_il (rgL_i (rg_il (rnL_leu u_39.2 (rnL_lel u_39.1 (rgL_c (v := 0) (lo := 0) (hi := 0) (by decide)) (rgL_i (rg_any _))) (rgL_c (v := 6) (lo := 6) (hi := 6) (by decide)))))) (by decide)) (by decide)) K162 (z162_16 + 1) (z162_14 * 10) ((z162_14 * 10) * (Int32.toInt64 r_65)) _ _ ls rfl (rg_w (rg_add (lo := 1) (hi := 6) (rn_ltu (u' := 5) (Int32.not_le.mp c_75) hz162_16 (rg_il (rgL_i (rg_il (rnL_leu u_39.2 (rnL_lel u_39.1 (rgL_c (v := 0) (lo := 0) (hi := 0) (by decide)) (rgL_i (rg_any _))) (rgL_c (v := 6) (lo := 6) (hi := 6) (by decide)))))) (by decide)) (rg_c (v := 1) (lo := 1) (hi := 1) (by decide)) (by decide)) (by decide)) hT hF hLF_162 hP hD hS (lv_sub hl [0, 2, 1, 4, 5, 6, 7, 8, 9, 10, 11, 12, 13, 14, 15] rfl)
                exact L_162 _ C_70 0 1 (Int32.toInt64 r_65) _ _ ls rfl (rg_w (rg_c (v := 0) (lo := 0) (hi := 0) (by decide)) (by decide)) hT hF fr_rf hP hD hS (lv_sub hl [0, 1, 2, 3, 4, 5, 6, 7, 8, 9, 10, 11, 12, 13, 14] rfl)
              · refine lv_aload_n hx hb dX7_frost_143 rfl (lv_at hl 4 rfl) ?_
                refine lv_bipush (v := (-5)) hx hb dX7_frost_144 (by decide) ?_
                refine tm_V (As := [.int (-5)]) (rest := []) ⟨hx, hb, hml, hown, htg⟩ (c_X7_refuse l D E G _ a C_70 n hn hT ((-5) : Int32) (rg_w (rg_c (v := (-5)) (lo := (-5)) (hi := (-5)) (by decide)) (by decide))) (cwV 1 htg (oh_gV q_1071 q_1073 q_29 q_73 q_1074) rfl rfl rfl pdVX7_refuse ⟨Nat.le_of_ble_eq_true rfl, Nat.le_of_ble_eq_true rfl⟩) hK hP hD hG hS hA (va_recv hK hP (ci := 7) (q0 := 0) rfl (oh_wg (Nat.lt_of_lt_of_le (by decide) hn) (sM_0 hT))) rfl hl.1 rfl (Nat.le_of_ble_eq_true rfl) dX7_frost_146 ⟨Nat.le_of_ble_eq_true rfl, Nat.le_of_ble_eq_true rfl⟩ (fun r_77 C_78 H locs hq_79 hP hD hS => ?_)
                obtain ⟨hT, f_80, hq_79⟩ := hq_79
                have hF := fr_tr hF f_80 (by decide) (by decide)
                refine W.widen (k := 0) (n := 0) (Nat.le_refl _) (Nat.le_refl _) ?_
                have t_81 := hT
                refine lv_i2l (v := Int32.toInt64 r_77) hx hb dX7_frost_149 (by rfl) ?_
                rw [hQ]
                exact W.lret (v := Int32.toInt64 r_77) hx hb hr (fun t ht hW => ⟨⟨Int32.toInt64 r_77, C_78, rfl, ⟨hT, hF, ⟨⟨hR.1.fr hF (by decide), hR.2.fr hF (by decide)⟩, (by rw [(f_80.1 13 rfl (by decide)), (st_ga e_71), (f_68.1 13 rfl (by decide)), (st_ga e_63), (f_60.1 13 rfl (by decide)), (st_ga e_55)]; exact upd_b3)⟩⟩, ⟨by rw [ht]; exact hP, hD⟩⟩, hS.F ht⟩) hS.2.2 dX7_frost_150
            · have u_82 := hq_51.2.2 c_52
              refine lv_aload_n hx hb dX7_frost_75 rfl (lv_at hl 1 rfl) ?_
              refine lv_bipush (v := (-2)) hx hb dX7_frost_76 (by decide) ?_
              refine tm_V (As := [.int (-2)]) (rest := []) ⟨hx, hb, hml, hown, htg⟩ (c_X7_refuse l D E G _ a C n hn hT ((-2) : Int32) (rg_w (rg_c (v := (-2)) (lo := (-2)) (hi := (-2)) (by decide)) (by decide))) (cwV 1 htg (oh_gV q_1071 q_1073 q_29 q_73 q_1074) rfl rfl rfl pdVX7_refuse ⟨Nat.le_of_ble_eq_true rfl, Nat.le_of_ble_eq_true rfl⟩) hK hP hD hG hS hA (va_recv hK hP (ci := 7) (q0 := 0) rfl (oh_wg (Nat.lt_of_lt_of_le (by decide) hn) (sM_0 hT))) rfl hl.1 rfl (Nat.le_of_ble_eq_true rfl) dX7_frost_78 ⟨Nat.le_of_ble_eq_true rfl, Nat.le_of_ble_eq_true rfl⟩ (fun r_83 C_84 H locs hq_85 hP hD hS => ?_)
              obtain ⟨hT, f_86, hq_85⟩ := hq_85
              have hF := fr_tr hF f_86 (by decide) (by decide)
              refine W.widen (k := 0) (n := 0) (Nat.le_refl _) (Nat.le_refl _) ?_
              have t_87 := hT
              refine lv_i2l (v := Int32.toInt64 r_83) hx hb dX7_frost_81 (by rfl) ?_
              rw [hQ]
              exact W.lret (v := Int32.toInt64 r_83) hx hb hr (fun t ht hW => ⟨⟨Int32.toInt64 r_83, C_84, rfl, ⟨hT, hF, ⟨⟨hR.1.fr hF (by decide), hR.2.fr hF (by decide)⟩, (congrArg ga (f_86.1 13 rfl (by decide)))⟩⟩, ⟨by rw [ht]; exact hP, hD⟩⟩, hS.F ht⟩) hS.2.2 dX7_frost_82
/-! EXACT: bytes that are fed -/
def bytOf (v z : Int32) : Int32 := (v >>> ((8 * z) &&& 31)) &&& 255
def fedZ (v : Int32) : Nat → (Nat → Int32) → Nat → (Nat → Int32)
  | 0, f, _ => f
  | k + 1, f, s => fedZ v k (upd f s (bytOf v (Int32.ofNat k))) (s + 1)
theorem fedZ_s {v : Int32} {k s : Nat} {f : Nat → Int32} : fedZ v (k + 1) f s = fedZ v k (upd f s (bytOf v (Int32.ofNat k))) (s + 1) := rfl
theorem ofc3 {z : Int32} (h : rg z 0 3) : Int32.ofNat z.toNatClampNeg = z := by
  refine Int32.toInt_inj.mp ?_
  have e := oh_nat h (by decide)
  have e2 : (Int32.ofNat z.toNatClampNeg).toInt = (z.toNatClampNeg : Int) := nI_toInt (by have := h.2; omega)
  rw [e2, e]
theorem fz_s {v z s s2 : Int32} {f f2 : Nat → Int32} (hz : rg z 0 3) (hs : rg s 0 249) (e : f2 = upd f s.toNatClampNeg (bytOf v z)) (es : s2 = s + 1) : fedZ v ((z + (-1)).toInt + 1).toNat f2 s2.toNatClampNeg = fedZ v (z.toInt + 1).toNat f s.toNatClampNeg := by
  have e1 := oh_sub1 (z := z) (rg_w hz (by decide))
  have e2 : s2.toNatClampNeg = s.toNatClampNeg + 1 := by
    show s2.toInt.toNat = s.toInt.toNat + 1
    rw [es, oh_add1 hs]
    have := hs.1
    omega
  have e3 := oh_nat hz (by decide)
  have e4 := ofc3 hz
  rw [e2, e, e1, show (z.toInt + 1).toNat = z.toNatClampNeg + 1 by omega, show (z.toInt - 1 + 1).toNat = z.toNatClampNeg by omega, fedZ_s, e4]
theorem fz_0 {v n s : Int32} {f : Nat → Int32} (hn : rg n 1 4) : fedZ v ((n - 1).toInt + 1).toNat f s.toNatClampNeg = fedZ v n.toInt.toNat f s.toNatClampNeg := by
  rw [oh_sub1' hn, show (n.toInt - 1 + 1).toNat = n.toInt.toNat by omega]
theorem fz_e {v z s : Int32} {f : Nat → Int32} (c : z < 0) : fedZ v (z.toInt + 1).toNat f s.toNatClampNeg = f := by
  have h := Int32.lt_iff_toInt_lt.mp c
  have c0 : (0 : Int32).toInt = 0 := rfl
  rw [show (z.toInt + 1).toNat = 0 by omega]
  rfl
noncomputable def fedF (f : Nat → Int32) (s v n : Int32) : Nat → Int32 := if ¬ ((1 : Int32) ≤ n ∧ n ≤ 4) then f else if (250 : Int32) < s + n then f else fedZ v n.toInt.toNat f s.toNatClampNeg
theorem ff1 {f g : Nat → Int32} {s v n : Int32} (e : g = f) (h : ¬ ((1 : Int32) ≤ n ∧ n ≤ 4)) : g = fedF f s v n := by rw [e]; exact (if_pos h).symm
theorem ff2 {f g : Nat → Int32} {s v n : Int32} (e : g = f) (h1 : (1 : Int32) ≤ n) (h2 : n ≤ 4) (c : (250 : Int32) < s + n) : g = fedF f s v n := by
  rw [e]
  unfold fedF
  rw [if_neg (fun q => q ⟨h1, h2⟩), if_pos c]
theorem ff3 {f g : Nat → Int32} {s v n : Int32} (e : g = fedZ v n.toInt.toNat f s.toNatClampNeg) (h1 : (1 : Int32) ≤ n) (h2 : n ≤ 4) (c : s + n ≤ (250 : Int32)) : g = fedF f s v n := by
  unfold fedF
  rw [if_neg (fun q => q ⟨h1, h2⟩), if_neg (fun q => absurd q (Int32.not_lt.mpr c))]
  exact e

set_option maxHeartbeats 4000000 in
set_option maxRecDepth 100000 in
theorem e_X4_append (l : Launch) (D : va_G) (E : Nat → ClassId) (G : Nat → Nat) (sz : Nat) (a : Nat → Nat) (C : Nat → va_E) (hT : TyX a E C) (x1 : Int32) (x2 : Int32) (hx2 : rg x2 1 4) (hp : (gi (C 5) 1).toInt + x2.toInt ≤ 250) : Met l yX4_append (oh_w yX4_append cX4_append 4 none) ({ frames := 0, cells := 0, slots := 0, locals := 0 }) (oh_Pm D E G [.ref (a 5), .int x1, .int x2] (oh_W 35 a C) sz) (va_Qv (fun (u : Nat → va_E) => TyX a E u ∧ fr [(5, 6), (32, 33)] [] C u ∧ ((gi (u 5) 1).toInt = (gi (C 5) 1).toInt + x2.toInt) ∧ (ga (u 32) = fedZ x1 x2.toInt.toNat (ga (C 32)) (gi (C 5) 1).toNatClampNeg)) (oh_B D (va_A (oh_W 35 a C) sz) (fun u => oh_W 35 a u)) (va_A (oh_W 35 a C) sz)) 0 0 (va_A (oh_W 35 a C) sz) := by
  refine Met.ofW (cc := cX4_append) (maxL := 4) (ret := none) (by decide) rfl ?_
  intro p e s m args below meth c s₁ B hml hv
  obtain ⟨rfl, hsz, hP, hK, hD0, hG⟩ := hv
  have hx := B.exec
  have hb := B.bytes
  have hr := B.returns
  have hts := atoms_spec (ws := (oh_w yX4_append cX4_append 4 none)) B.pre
  have htg : ∀ w ∈ oh_t, w.before _ s = true := fun w h => hts w (List.mem_cons_of_mem _ h)
  have hown : s.vm.findClass RX4 = some m.cls := findClass_of_methodNamed B.named
  have hlocks := B.notSynchronized
  have hT0 := hT
  subst hsz
  have hD := hD0.self (sz := s.heap.size)
  generalize hAe : va_A (oh_W 35 a C) s.heap.size = A at hD hG ⊢
  have hA : ∀ q : Nat, s.heap.size ≤ q → A q := fun q h => by rw [← hAe]; exact Or.inr h
  have hS : va_S A s.heap s.heap [] := va_S.rf
  have hF : fr [(5, 6), (32, 33)] [] C C := fr_rf
  have hl := lv_entry ([.ref (a 5), .int x1, .int x2]) (n := 4) (Nat.le_of_ble_eq_true rfl)
  rw [lg_entry_eq]
  generalize (lg_sl ([.ref (a 5), .int x1, .int x2]) ++ List.replicate (4 - (lg_sl ([.ref (a 5), .int x1, .int x2])).length) Slot.unset).toArray = ls at hl ⊢
  have hl : lv_has ls 4 [(0, .ref (a 5)), (1, .int x1), (2, .int x2)] := hl
  refine oh_genQ (fun Q hQ => ?_)
  refine lv_iload_n hx hb dX4_append_0 rfl (lv_at hl 2 rfl) ?_
  refine lv_iconst (v := 1) hx hb dX4_append_1 (by decide) ?_
  refine lv_isub hx hb dX4_append_2 ?_
  refine lv_istore_n (lv' := [(3, .int (x2 - 1)), (0, .ref (a 5)), (1, .int x1), (2, .int x2)]) hx hb dX4_append_3 rfl hl (by decide) rfl (fun ls hl => ?_)
  have L_4 : ∀ (d : Nat) (K4 : Nat → va_E) (z4_3 : Int32) (H : Heap) (locs : List Loc) (ls : Array Slot), (z4_3.toInt + 1).toNat = d → rg z4_3 (-1) 3 → ((gi (K4 5) 1).toInt + z4_3.toInt = (gi (C 5) 1).toInt + x2.toInt - 1) → (fedZ x1 (z4_3.toInt + 1).toNat (ga (K4 32)) (gi (K4 5) 1).toNatClampNeg = fedZ x1 x2.toInt.toNat (ga (C 32)) (gi (C 5) 1).toNatClampNeg) → TyX a E K4 → fr [(5, 6), (32, 33)] [] C K4 → fr [(5, 6), (32, 33)] [] C K4 → va_P D vwCl (oh_W 35 a K4) H → va_D A (oh_W 35 a K4) → va_S A s.heap H locs → lv_has ls 4 [(3, .int z4_3), (0, .ref (a 5)), (1, .int x1), (2, .int x2)] → W p l e ({ frames := 0, cells := 0, slots := 0, locals := 0 }) s m (([.ref (a 5), .int x1, .int x2] : List Value).toArray) below meth c H locs 0 0 Q (F0 m 4 ls []) := by
    intro d
    induction d using Nat.strongRecOn with
    | ind d ih_4 =>
    intro K4 z4_3 H locs ls hd_4 hz4_3 hv_4 hb_4 hT hF hLF_4 hP hD hS hl
    have t_1 := hT
    refine lv_iload_n hx hb dX4_append_4 rfl (lv_at hl 0 rfl) ?_
    refine lv_if_lt (tgt := 43) hx hb dX4_append_5 (by decide) (fun (c_2 : z4_3 < 0) => ?_) (fun (c_2 : ¬ (z4_3 < 0)) => ?_)
    · rw [hQ]
      exact W.vret hx hb hr (fun t ht hW => ⟨⟨K4, rfl, ⟨hT, hF, ⟨(by have h7 := (rn_ltu (u' := (-1)) c_2 hz4_3 (rg_c (v := 0) (lo := 0) (hi := 0) (by decide)) (by decide)); have h8 := h7.1; have h9 := h7.2; omega), (Eq.trans (fz_e c_2).symm hb_4)⟩⟩, ⟨by rw [ht]; exact hP, hD⟩⟩, hS.F ht⟩) hS.2.2 dX4_append_43
    · refine lv_aload_n hx hb dX4_append_8 rfl (lv_at hl 1 rfl) ?_
      refine va_get (D := D) (ci := 4) (v := .ref (a 32)) (C := RX4) (T := TX4) (N := 6) hx hb htg ig_4 hown hK hP 5 (oh_wg (by decide) (sX_5 hT)) rfl 0 (by decide) (htg _ q_217) (fun _ h9 => h9) rfl dX4_append_9 ?_
      refine lv_aload_n hx hb dX4_append_12 rfl (lv_at hl 1 rfl) ?_
      refine va_get (D := D) (ci := 4) (v := .int (gi (K4 5) 1)) (C := RX4) (T := TX4) (N := 6) hx hb htg ig_4 hown hK hP 5 (oh_wg (by decide) (sX_5 hT)) rfl 1 (by decide) (htg _ q_218) (fun _ h9 => h9) rfl dX4_append_13 ?_
      refine lv_iload_n hx hb dX4_append_16 rfl (lv_at hl 2 rfl) ?_
      refine lv_bipush (v := 8) hx hb dX4_append_17 (by decide) ?_
      refine lv_iload_n hx hb dX4_append_19 rfl (lv_at hl 0 rfl) ?_
      refine lv_imul hx hb dX4_append_20 ?_
      refine lv_ishr hx hb dX4_append_21 ?_
      refine lv_sipush (v := 255) hx hb dX4_append_22 (by decide) ?_
      refine lv_iand hx hb dX4_append_25 ?_
      have n_3 : vp_in (gi (K4 5) 1) 250 := (rg_in (l := 0) (u := 249) ⟨(fX_5_1 t_1).1, (oh_ap1 (rg_w (rn_lel (Int32.not_lt.mp c_2) (rg_c (v := 0) (lo := 0) (hi := 0) (by decide)) hz4_3) (by decide)) (fX_5_1 hT0) hx2 hp hv_4).2⟩ (by decide))
      refine th_iast (T := TyX a E) (Rl := fr [(5, 6), (32, 33)] [] C) hx hb hK hP hD hS 32 (by decide) (sX_32 hT) n_3 (hT.up 32 (tA_upd (tX_32 hT) tA_any)) (fr_st hF (by decide) (by decide)) dX4_append_26 (fun C_4 H locs e_5 hT hF hP hD hS => ?_)
      have t_6 := hT
      refine lv_aload_n hx hb dX4_append_27 rfl (lv_at hl 1 rfl) ?_
      refine lv_dup hx hb dX4_append_28 rfl ?_
      refine va_get (D := D) (ci := 4) (v := .int (gi (K4 5) 1)) (C := RX4) (T := TX4) (N := 6) hx hb htg ig_4 hown hK hP 5 (oh_wg (by decide) (sX_5 hT)) rfl 1 (by decide) (htg _ q_218) (fun _ h9 => h9) (oh_fv (c := C_4 5) (j := 1) rfl (congrArg (fun z => gi z 1) (th_un e_5 (by decide)))) dX4_append_29 ?_
      refine lv_iconst (v := 1) hx hb dX4_append_32 (by decide) ?_
      refine lv_iadd hx hb dX4_append_33 ?_
      refine th_put (Tp := TyX a E) (Rl := fr [(5, 6), (32, 33)] [] C) (ci := 4) (v := .int ((gi (K4 5) 1) + 1)) (ty := .int) (CC := RX4) (T := TX4) (N := 6) hx hb htg ig_4 tyX4 tyX4_ok nmX4 hown hK hP hD hS 5 (by decide) (sX_5 hT) rfl 1 (by decide) (htg _ q_218) (fun _ h9 => h9) rfl (by decide +kernel) rfl rfl (Nat.le_of_ble_eq_true rfl) (hT.up 5 ⟨rfl, (rg_w (rg_add (lo := 1) (hi := 250) (l := 0) (u := 249) ⟨(fX_5_1 t_1).1, (oh_ap1 (rg_w (rn_lel (Int32.not_lt.mp c_2) (rg_c (v := 0) (lo := 0) (hi := 0) (by decide)) hz4_3) (by decide)) (fX_5_1 hT0) hx2 hp hv_4).2⟩ (rg_c (v := 1) (lo := 1) (hi := 1) (by decide)) (by decide)) (by decide)), (fX_5_2 hT), (fX_5_4 hT), (fX_5_5 hT)⟩) (fr_st hF (by decide) (by decide)) dX4_append_34 (fun C_7 H locs e_8 hT hF hP hD hS => ?_)
      have t_9 := hT
      refine lv_iinc (v := z4_3 + (-1)) (lv' := [(3, .int (z4_3 + (-1))), (0, .ref (a 5)), (1, .int x1), (2, .int x2)]) hx hb dX4_append_37 hl (k := 0) rfl (by rfl) (by decide) rfl (fun ls hl => ?_)
      refine lv_goto (tgt := 4) hx hb dX4_append_40 (by decide) ?_
      exact ih_4 _ (hd_4 ▸ mu_dn (rn_lel (Int32.not_lt.mp c_2) (rg_c (v := 0) (lo := 0) (hi := 0) (by decide)) hz4_3) (by decide)) C_7 (z4_3 + (-1)) _ _ ls rfl (rg_w (rg_add (lo := (-1)) (hi := 2) (rn_lel (Int32.not_lt.mp c_2) (rg_c (v := 0) (lo := 0) (hi := 0) (by decide)) hz4_3) (rg_c (v := (-1)) (lo := (-1)) (hi := (-1)) (by decide)) (by decide)) (by decide)) (by rw [(show gi (C_7 5) 1 = ((gi (K4 5) 1) + 1) by rw [e_8]; rfl), oh_add1 ⟨(fX_5_1 t_1).1, (oh_ap1 (rg_w (rn_lel (Int32.not_lt.mp c_2) (rg_c (v := 0) (lo := 0) (hi := 0) (by decide)) hz4_3) (by decide)) (fX_5_1 hT0) hx2 hp hv_4).2⟩, oh_sub1 (rg_w (rn_lel (Int32.not_lt.mp c_2) (rg_c (v := 0) (lo := 0) (hi := 0) (by decide)) hz4_3) (by decide))]; omega) (Eq.trans (fz_s (rg_w (rn_lel (Int32.not_lt.mp c_2) (rg_c (v := 0) (lo := 0) (hi := 0) (by decide)) hz4_3) (by decide)) ⟨(fX_5_1 t_1).1, (oh_ap1 (rg_w (rn_lel (Int32.not_lt.mp c_2) (rg_c (v := 0) (lo := 0) (hi := 0) (by decide)) hz4_3) (by decide)) (fX_5_1 hT0) hx2 hp hv_4).2⟩ (Eq.trans (congrArg ga (th_un e_8 (by decide))) (st_ga e_5)) (show gi (C_7 5) 1 = ((gi (K4 5) 1) + 1) by rw [e_8]; rfl)) hb_4) hT hF (fr_ste (fr_ste hLF_4 e_5 (by decide) (by decide)) e_8 (by decide) (by decide)) hP hD hS (lv_sub hl [0, 1, 2, 3] rfl)
  exact L_4 _ C (x2 - 1) _ _ ls rfl (rg_w (rg_sub (lo := 0) (hi := 3) hx2 (rg_c (v := 1) (lo := 1) (hi := 1) (by decide)) (by decide)) (by decide)) (by rw [oh_sub1' hx2]; omega) (fz_0 hx2) hT hF fr_rf hP hD hS (lv_sub hl [0, 1, 2, 3] rfl)

set_option maxHeartbeats 4000000 in
set_option maxRecDepth 100000 in
theorem e_X6_feed (l : Launch) (D : va_G) (E : Nat → ClassId) (G : Nat → Nat) (sz : Nat) (a : Nat → Nat) (C : Nat → va_E) (hT : TyX a E C) (x1 : Int32) (x2 : Int32) : Met l yX6_feed (oh_w yX6_feed cX6_feed 3 (some .int)) ({ frames := 2, cells := 0, slots := 0, locals := 44 }) (oh_Pm D E G [.ref (a 0), .int x1, .int x2] (oh_W 35 a C) sz) (va_Qi (fun r (u : Nat → va_E) => TyX a E u ∧ fr [(5, 6), (7, 8), (32, 33)] [] C u ∧ (r = oh_feed (gi (C 5) 1) x2) ∧ (gi (u 5) 1 = oh_fsz (gi (C 5) 1) x2) ∧ (ga (u 32) = fedF (ga (C 32)) (gi (C 5) 1) x1 x2)) (oh_B D (va_A (oh_W 35 a C) sz) (fun u => oh_W 35 a u)) (va_A (oh_W 35 a C) sz)) 0 0 (va_A (oh_W 35 a C) sz) := by
  refine Met.ofW (cc := cX6_feed) (maxL := 3) (ret := (some .int)) (by decide) rfl ?_
  intro p e s m args below meth c s₁ B hml hv
  obtain ⟨rfl, hsz, hP, hK, hD0, hG⟩ := hv
  have hx := B.exec
  have hb := B.bytes
  have hr := B.returns
  have hts := atoms_spec (ws := (oh_w yX6_feed cX6_feed 3 (some .int))) B.pre
  have htg : ∀ w ∈ oh_t, w.before _ s = true := fun w h => hts w (List.mem_cons_of_mem _ h)
  have hown : s.vm.findClass RX6 = some m.cls := findClass_of_methodNamed B.named
  have hlocks := B.notSynchronized
  have hT0 := hT
  subst hsz
  have hD := hD0.self (sz := s.heap.size)
  generalize hAe : va_A (oh_W 35 a C) s.heap.size = A at hD hG ⊢
  have hA : ∀ q : Nat, s.heap.size ≤ q → A q := fun q h => by rw [← hAe]; exact Or.inr h
  have hS : va_S A s.heap s.heap [] := va_S.rf
  have hF : fr [(5, 6), (7, 8), (32, 33)] [] C C := fr_rf
  have hl := lv_entry ([.ref (a 0), .int x1, .int x2]) (n := 3) (Nat.le_of_ble_eq_true rfl)
  rw [lg_entry_eq]
  generalize (lg_sl ([.ref (a 0), .int x1, .int x2]) ++ List.replicate (3 - (lg_sl ([.ref (a 0), .int x1, .int x2])).length) Slot.unset).toArray = ls at hl ⊢
  have hl : lv_has ls 3 [(0, .ref (a 0)), (1, .int x1), (2, .int x2)] := hl
  refine oh_genQ (fun Q hQ => ?_)
  refine lv_iload_n hx hb dX6_feed_0 rfl (lv_at hl 2 rfl) ?_
  refine lv_iconst (v := 1) hx hb dX6_feed_1 (by decide) ?_
  refine lv_iconst (v := 4) hx hb dX6_feed_2 (by decide) ?_
  refine tq_S (As := [.int x2, .int 1, .int 4]) (rest := []) (ws := []) ⟨hx, hb, hml, hown, htg⟩ (c_X6_within l D E G x2 (1 : Int32) (4 : Int32)) (va_cwS 3 htg (oh_gS q_293 q_294 q_66 q_295) rfl rfl rfl pdX6_within ⟨Nat.le_of_ble_eq_true rfl, Nat.le_of_ble_eq_true rfl⟩) hK va_nil hG hS rfl hl.1 rfl (Nat.le_of_ble_eq_true rfl) dX6_feed_3 ⟨Nat.le_of_ble_eq_true rfl, Nat.le_of_ble_eq_true rfl⟩ (fun r_1 hq_2 => ?_)
  refine lv_if_ne (tgt := 16) hx hb dX6_feed_6 (by decide) (fun (c_3 : ¬ (r_1 = 0)) => ?_) (fun (c_3 : r_1 = 0) => ?_)
  · have u_4 := hq_2.2.1 c_3
    refine lv_aload_n hx hb dX6_feed_16 rfl (lv_at hl 0 rfl) ?_
    refine va_get (D := D) (ci := 6) (v := .ref (a 5)) (C := RX6) (T := TX6) (N := 9) hx hb htg ig_6 hown hK hP 0 (oh_wg (by decide) (sX_0 hT)) rfl 5 (by decide) (htg _ q_263) (fun _ h9 => h9) rfl dX6_feed_17 ?_
    refine va_get (D := D) (ci := 4) (v := .int (gi (C 5) 1)) (C := RX4) (T := TX4) (N := 6) hx hb htg ig_4 hown hK hP 5 (oh_wg (by decide) (sX_5 hT)) rfl 1 (by decide) (htg _ q_219) (fun _ h9 => h9) rfl dX6_feed_20 ?_
    refine lv_iload_n hx hb dX6_feed_23 rfl (lv_at hl 2 rfl) ?_
    refine lv_iadd hx hb dX6_feed_24 ?_
    refine lv_sipush (v := 250) hx hb dX6_feed_25 (by decide) ?_
    refine lv_icmp_le (tgt := 38) hx hb dX6_feed_28 (by decide) (fun (c_5 : ((gi (C 5) 1) + x2) ≤ 250) => ?_) (fun (c_5 : ¬ (((gi (C 5) 1) + x2) ≤ 250)) => ?_)
    · refine lv_aload_n hx hb dX6_feed_38 rfl (lv_at hl 0 rfl) ?_
      refine va_get (D := D) (ci := 6) (v := .ref (a 5)) (C := RX6) (T := TX6) (N := 9) hx hb htg ig_6 hown hK hP 0 (oh_wg (by decide) (sX_0 hT)) rfl 5 (by decide) (htg _ q_263) (fun _ h9 => h9) rfl dX6_feed_39 ?_
      refine lv_iload_n hx hb dX6_feed_42 rfl (lv_at hl 1 rfl) ?_
      refine lv_iload_n hx hb dX6_feed_43 rfl (lv_at hl 2 rfl) ?_
      refine tm_Vv (As := [.int x1, .int x2]) (rest := []) ⟨hx, hb, hml, hown, htg⟩ (e_X4_append l D E G _ a C hT x1 x2 (rg_w (rn_leu u_4.2 (rn_lel u_4.1 (rg_c (v := 1) (lo := 1) (hi := 1) (by decide)) (rg_any _)) (rg_c (v := 4) (lo := 4) (hi := 4) (by decide))) (by decide)) (oh_fdp (fX_5_1 hT) u_4.1 u_4.2 c_5)) (cwV 2 htg (oh_gV q_487 q_488 q_489 q_71 q_490) rfl rfl rfl pdVX4_append ⟨Nat.le_of_ble_eq_true rfl, Nat.le_of_ble_eq_true rfl⟩) hK hP hD hG hS hA (va_recv hK hP (ci := 4) (q0 := 5) rfl (oh_wg (by decide) (sX_5 hT))) rfl hl.1 rfl (Nat.le_of_ble_eq_true rfl) dX6_feed_44 ⟨Nat.le_of_ble_eq_true rfl, Nat.le_of_ble_eq_true rfl⟩ (fun C_7 H locs hq_8 hP hD hS => ?_)
      obtain ⟨hT, f_9, hq_8⟩ := hq_8
      have hF := fr_tr hF f_9 (by decide) (by decide)
      refine W.widen (k := 0) (n := 0) (Nat.le_refl _) (Nat.le_refl _) ?_
      have t_10 := hT
      refine lv_aload_n hx hb dX6_feed_47 rfl (lv_at hl 0 rfl) ?_
      refine va_get (D := D) (ci := 6) (v := .ref (a 5)) (C := RX6) (T := TX6) (N := 9) hx hb htg ig_6 hown hK hP 0 (oh_wg (by decide) (sX_0 hT)) rfl 5 (by decide) (htg _ q_263) (fun _ h9 => h9) rfl dX6_feed_48 ?_
      refine va_get (D := D) (ci := 4) (v := .int (gi (C_7 5) 1)) (C := RX4) (T := TX4) (N := 6) hx hb htg ig_4 hown hK hP 5 (oh_wg (by decide) (sX_5 hT)) rfl 1 (by decide) (htg _ q_219) (fun _ h9 => h9) rfl dX6_feed_51 ?_
      rw [hQ]
      exact W.iret (v := gi (C_7 5) 1) hx hb hr (fun t ht hW => ⟨⟨gi (C_7 5) 1, C_7, rfl, ⟨hT, hF, ⟨(oh_fd3 (fX_5_1 hT0) u_4.1 u_4.2 c_5 hq_8.1), (oh_fz3 (fX_5_1 hT0) u_4.1 u_4.2 c_5 hq_8.1), (ff3 hq_8.2 u_4.1 u_4.2 c_5)⟩⟩, ⟨by rw [ht]; exact hP, hD⟩⟩, hS.F ht⟩) hS.2.2 dX6_feed_54
    · refine lv_aload_n hx hb dX6_feed_31 rfl (lv_at hl 0 rfl) ?_
      refine lv_bipush (v := (-6)) hx hb dX6_feed_32 (by decide) ?_
      refine tm_V (As := [.int (-6)]) (rest := []) ⟨hx, hb, hml, hown, htg⟩ (c_X6_refuse l D E G _ a C hT ((-6) : Int32)) (cwV 1 htg (oh_gV q_296 q_298 q_0 q_66 q_299) rfl rfl rfl pdVX6_refuse ⟨Nat.le_of_ble_eq_true rfl, Nat.le_of_ble_eq_true rfl⟩) hK hP hD hG hS hA (va_recv hK hP (ci := 6) (q0 := 0) rfl (oh_wg (by decide) (sX_0 hT))) rfl hl.1 rfl (Nat.le_of_ble_eq_true rfl) dX6_feed_34 ⟨Nat.le_of_ble_eq_true rfl, Nat.le_of_ble_eq_true rfl⟩ (fun r_11 C_12 H locs hq_13 hP hD hS => ?_)
      obtain ⟨hT, f_14, hq_13⟩ := hq_13
      have hF := fr_tr hF f_14 (by decide) (by decide)
      refine W.widen (k := 0) (n := 0) (Nat.le_refl _) (Nat.le_refl _) ?_
      have t_15 := hT
      rw [hQ]
      exact W.iret (v := r_11) hx hb hr (fun t ht hW => ⟨⟨r_11, C_12, rfl, ⟨hT, hF, ⟨(oh_fd2 hq_13 u_4.1 u_4.2 (Int32.not_le.mp c_5)), (oh_fz2 (congrArg (fun z => gi z 1) (f_14.1 5 rfl (by decide))) u_4.1 u_4.2 (Int32.not_le.mp c_5)), (ff2 (congrArg ga (f_14.1 32 rfl (by decide))) u_4.1 u_4.2 (Int32.not_le.mp c_5))⟩⟩, ⟨by rw [ht]; exact hP, hD⟩⟩, hS.F ht⟩) hS.2.2 dX6_feed_37
  · have u_16 := hq_2.2.2 c_3
    refine lv_aload_n hx hb dX6_feed_9 rfl (lv_at hl 0 rfl) ?_
    refine lv_bipush (v := (-2)) hx hb dX6_feed_10 (by decide) ?_
    refine tm_V (As := [.int (-2)]) (rest := []) ⟨hx, hb, hml, hown, htg⟩ (c_X6_refuse l D E G _ a C hT ((-2) : Int32)) (cwV 1 htg (oh_gV q_296 q_298 q_0 q_66 q_299) rfl rfl rfl pdVX6_refuse ⟨Nat.le_of_ble_eq_true rfl, Nat.le_of_ble_eq_true rfl⟩) hK hP hD hG hS hA (va_recv hK hP (ci := 6) (q0 := 0) rfl (oh_wg (by decide) (sX_0 hT))) rfl hl.1 rfl (Nat.le_of_ble_eq_true rfl) dX6_feed_12 ⟨Nat.le_of_ble_eq_true rfl, Nat.le_of_ble_eq_true rfl⟩ (fun r_17 C_18 H locs hq_19 hP hD hS => ?_)
    obtain ⟨hT, f_20, hq_19⟩ := hq_19
    have hF := fr_tr hF f_20 (by decide) (by decide)
    refine W.widen (k := 0) (n := 0) (Nat.le_refl _) (Nat.le_refl _) ?_
    have t_21 := hT
    rw [hQ]
    exact W.iret (v := r_17) hx hb hr (fun t ht hW => ⟨⟨r_17, C_18, rfl, ⟨hT, hF, ⟨(oh_fd1 hq_19 u_16), (oh_fz1 (congrArg (fun z => gi z 1) (f_20.1 5 rfl (by decide))) u_16), (ff1 (congrArg ga (f_20.1 32 rfl (by decide))) u_16)⟩⟩, ⟨by rw [ht]; exact hP, hD⟩⟩, hS.F ht⟩) hS.2.2 dX6_feed_15

set_option maxHeartbeats 4000000 in
set_option maxRecDepth 100000 in
theorem e_X7_feed (l : Launch) (D : va_G) (E : Nat → ClassId) (G : Nat → Nat) (sz : Nat) (a : Nat → Nat) (C : Nat → va_E) (n : Nat) (hn : 74 ≤ n) (hT : TyM a E C) (x1 : Int32) (x2 : Int32) (hR : RelM C) : Met l yX7_feed (oh_w yX7_feed cX7_feed 4 (some .int)) ({ frames := 1, cells := 0, slots := 0, locals := 25 }) (oh_Pm D E G [.ref (a 0), .int x1, .int x2] (oh_W n a C) sz) (va_Qi (fun r (u : Nat → va_E) => TyM a E u ∧ fr [(7, 8), (8, 9)] [7] C u ∧ (RelM u) ∧ (r = oh_feed (gi (C 0) 7) x2) ∧ (gi (u 0) 7 = oh_fsz (gi (C 0) 7) x2) ∧ (ga (u 7) = fedF (ga (C 7)) (gi (C 0) 7) x1 x2)) (oh_B D (va_A (oh_W n a C) sz) (fun u => oh_W n a u)) (va_A (oh_W n a C) sz)) 0 0 (va_A (oh_W n a C) sz) := by
  refine Met.ofW (cc := cX7_feed) (maxL := 4) (ret := (some .int)) (by decide) rfl ?_
  intro p e s m args below meth c s₁ B hml hv
  obtain ⟨rfl, hsz, hP, hK, hD0, hG⟩ := hv
  have hx := B.exec
  have hb := B.bytes
  have hr := B.returns
  have hts := atoms_spec (ws := (oh_w yX7_feed cX7_feed 4 (some .int))) B.pre
  have htg : ∀ w ∈ oh_t, w.before _ s = true := fun w h => hts w (List.mem_cons_of_mem _ h)
  have hown : s.vm.findClass RX7 = some m.cls := findClass_of_methodNamed B.named
  have hlocks := B.notSynchronized
  have hT0 := hT
  subst hsz
  have hD := hD0.self (sz := s.heap.size)
  generalize hAe : va_A (oh_W n a C) s.heap.size = A at hD hG ⊢
  have hA : ∀ q : Nat, s.heap.size ≤ q → A q := fun q h => by rw [← hAe]; exact Or.inr h
  have hS : va_S A s.heap s.heap [] := va_S.rf
  have hF : fr [(7, 8), (8, 9)] [7] C C := fr_rf
  have hl := lv_entry ([.ref (a 0), .int x1, .int x2]) (n := 4) (Nat.le_of_ble_eq_true rfl)
  rw [lg_entry_eq]
  generalize (lg_sl ([.ref (a 0), .int x1, .int x2]) ++ List.replicate (4 - (lg_sl ([.ref (a 0), .int x1, .int x2])).length) Slot.unset).toArray = ls at hl ⊢
  have hl : lv_has ls 4 [(0, .ref (a 0)), (1, .int x1), (2, .int x2)] := hl
  refine oh_genQ (fun Q hQ => ?_)
  refine lv_iload_n hx hb dX7_feed_0 rfl (lv_at hl 2 rfl) ?_
  refine lv_i2l (v := Int32.toInt64 x2) hx hb dX7_feed_1 (by rfl) ?_
  refine lv_lconst (v := 1) hx hb dX7_feed_2 (by decide) ?_
  refine lv_ldc2 (v := 4) hx hb hown (htg _ q_1069) dX7_feed_3 ?_
  refine tq_S (As := [.long (Int32.toInt64 x2), .long 1, .long 4]) (rest := []) (ws := []) ⟨hx, hb, hml, hown, htg⟩ (c_X7_in l D E G (Int32.toInt64 x2) (1 : Int64) (4 : Int64)) (va_cwS 3 htg (oh_gS q_1066 q_1067 q_73 q_1068) rfl rfl rfl pdX7_in ⟨Nat.le_of_ble_eq_true rfl, Nat.le_of_ble_eq_true rfl⟩) hK va_nil hG hS rfl hl.1 rfl (Nat.le_of_ble_eq_true rfl) dX7_feed_6 ⟨Nat.le_of_ble_eq_true rfl, Nat.le_of_ble_eq_true rfl⟩ (fun r_1 hq_2 => ?_)
  refine lv_if_ne (tgt := 19) hx hb dX7_feed_9 (by decide) (fun (c_3 : ¬ (r_1 = 0)) => ?_) (fun (c_3 : r_1 = 0) => ?_)
  · have u_4 := hq_2.2.1 c_3
    refine lv_iload_n hx hb dX7_feed_19 rfl (lv_at hl 2 rfl) ?_
    refine lv_sipush (v := 250) hx hb dX7_feed_20 (by decide) ?_
    refine lv_aload_n hx hb dX7_feed_23 rfl (lv_at hl 0 rfl) ?_
    refine va_get (D := D) (ci := 7) (v := .int (gi (C 0) 7)) (C := RX7) (T := TX7) (N := 29) hx hb htg ig_7 hown hK hP 0 (oh_wg (Nat.lt_of_lt_of_le (by decide) hn) (sM_0 hT)) rfl 7 (by decide) (htg _ q_980) (fun _ h9 => h9) rfl dX7_feed_24 ?_
    refine lv_isub hx hb dX7_feed_27 ?_
    refine lv_icmp_le (tgt := 38) hx hb dX7_feed_28 (by decide) (fun (c_5 : x2 ≤ (250 - (gi (C 0) 7))) => ?_) (fun (c_5 : ¬ (x2 ≤ (250 - (gi (C 0) 7)))) => ?_)
    · refine lv_iload_n hx hb dX7_feed_38 rfl (lv_at hl 2 rfl) ?_
      refine lv_iconst (v := 1) hx hb dX7_feed_39 (by decide) ?_
      refine lv_isub hx hb dX7_feed_40 ?_
      refine lv_istore_n (lv' := [(3, .int (x2 - 1)), (0, .ref (a 0)), (1, .int x1), (2, .int x2)]) hx hb dX7_feed_41 rfl hl (by decide) rfl (fun ls hl => ?_)
      have L_42 : ∀ (d : Nat) (K42 : Nat → va_E) (z42_3 : Int32) (H : Heap) (locs : List Loc) (ls : Array Slot), (z42_3.toInt + 1).toNat = d → rg z42_3 (-1) 3 → ((gi (K42 0) 7).toInt + z42_3.toInt = (gi (C 0) 7).toInt + x2.toInt - 1) → (fedZ x1 (z42_3.toInt + 1).toNat (ga (K42 7)) (gi (K42 0) 7).toNatClampNeg = fedZ x1 x2.toInt.toNat (ga (C 7)) (gi (C 0) 7).toNatClampNeg) → TyM a E K42 → fr [(7, 8), (8, 9)] [7] C K42 → fr [(7, 8)] [7] C K42 → va_P D vwCl (oh_W n a K42) H → va_D A (oh_W n a K42) → va_S A s.heap H locs → lv_has ls 4 [(3, .int z42_3), (0, .ref (a 0)), (1, .int x1), (2, .int x2)] → W p l e ({ frames := 1, cells := 0, slots := 0, locals := 25 }) s m (([.ref (a 0), .int x1, .int x2] : List Value).toArray) below meth c H locs 0 0 Q (F0 m 42 ls []) := by
        intro d
        induction d using Nat.strongRecOn with
        | ind d ih_42 =>
        intro K42 z42_3 H locs ls hd_42 hz42_3 hv_42 hb_42 hT hF hLF_42 hP hD hS hl
        have t_6 := hT
        refine lv_iload_n hx hb dX7_feed_42 rfl (lv_at hl 0 rfl) ?_
        refine lv_if_lt (tgt := 78) hx hb dX7_feed_43 (by decide) (fun (c_7 : z42_3 < 0) => ?_) (fun (c_7 : ¬ (z42_3 < 0)) => ?_)
        · refine lv_aload_n hx hb dX7_feed_78 rfl (lv_at hl 1 rfl) ?_
          refine va_get (D := D) (ci := 7) (v := .int (gi (K42 0) 7)) (C := RX7) (T := TX7) (N := 29) hx hb htg ig_7 hown hK hP 0 (oh_wg (Nat.lt_of_lt_of_le (by decide) hn) (sM_0 hT)) rfl 7 (by decide) (htg _ q_980) (fun _ h9 => h9) rfl dX7_feed_79 ?_
          rw [hQ]
          exact W.iret (v := gi (K42 0) 7) hx hb hr (fun t ht hW => ⟨⟨gi (K42 0) 7, K42, rfl, ⟨hT, hF, ⟨⟨hR.1.fr hF (by decide), hR.2.fr hF (by decide)⟩, (oh_fd3 (fM_0_7 hT0) (oh_rgI (p := 1) (q := 4) (rg_w (lo := 1) (hi := 4) (rg_il (rgL_i (rg_il (rnL_leu u_4.2 (rnL_lel u_4.1 (rgL_c (v := 1) (lo := 1) (hi := 1) (by decide)) (rgL_i (rg_any _))) (rgL_c (v := 4) (lo := 4) (hi := 4) (by decide)))))) (by decide))).1 (oh_rgI (p := 1) (q := 4) (rg_w (lo := 1) (hi := 4) (rg_il (rgL_i (rg_il (rnL_leu u_4.2 (rnL_lel u_4.1 (rgL_c (v := 1) (lo := 1) (hi := 1) (by decide)) (rgL_i (rg_any _))) (rgL_c (v := 4) (lo := 4) (hi := 4) (by decide)))))) (by decide))).2 (oh_fle (fM_0_7 hT0) (rg_w (lo := 1) (hi := 4) (rg_il (rgL_i (rg_il (rnL_leu u_4.2 (rnL_lel u_4.1 (rgL_c (v := 1) (lo := 1) (hi := 1) (by decide)) (rgL_i (rg_any _))) (rgL_c (v := 4) (lo := 4) (hi := 4) (by decide)))))) (by decide)) c_5) (by have h7 := (rn_ltu (u' := (-1)) c_7 hz42_3 (rg_c (v := 0) (lo := 0) (hi := 0) (by decide)) (by decide)); have h8 := h7.1; have h9 := h7.2; omega)), (oh_fz3 (fM_0_7 hT0) (oh_rgI (p := 1) (q := 4) (rg_w (lo := 1) (hi := 4) (rg_il (rgL_i (rg_il (rnL_leu u_4.2 (rnL_lel u_4.1 (rgL_c (v := 1) (lo := 1) (hi := 1) (by decide)) (rgL_i (rg_any _))) (rgL_c (v := 4) (lo := 4) (hi := 4) (by decide)))))) (by decide))).1 (oh_rgI (p := 1) (q := 4) (rg_w (lo := 1) (hi := 4) (rg_il (rgL_i (rg_il (rnL_leu u_4.2 (rnL_lel u_4.1 (rgL_c (v := 1) (lo := 1) (hi := 1) (by decide)) (rgL_i (rg_any _))) (rgL_c (v := 4) (lo := 4) (hi := 4) (by decide)))))) (by decide))).2 (oh_fle (fM_0_7 hT0) (rg_w (lo := 1) (hi := 4) (rg_il (rgL_i (rg_il (rnL_leu u_4.2 (rnL_lel u_4.1 (rgL_c (v := 1) (lo := 1) (hi := 1) (by decide)) (rgL_i (rg_any _))) (rgL_c (v := 4) (lo := 4) (hi := 4) (by decide)))))) (by decide)) c_5) (by have h7 := (rn_ltu (u' := (-1)) c_7 hz42_3 (rg_c (v := 0) (lo := 0) (hi := 0) (by decide)) (by decide)); have h8 := h7.1; have h9 := h7.2; omega)), (ff3 (Eq.trans (fz_e c_7).symm hb_42) (oh_rgI (p := 1) (q := 4) (rg_w (lo := 1) (hi := 4) (rg_il (rgL_i (rg_il (rnL_leu u_4.2 (rnL_lel u_4.1 (rgL_c (v := 1) (lo := 1) (hi := 1) (by decide)) (rgL_i (rg_any _))) (rgL_c (v := 4) (lo := 4) (hi := 4) (by decide)))))) (by decide))).1 (oh_rgI (p := 1) (q := 4) (rg_w (lo := 1) (hi := 4) (rg_il (rgL_i (rg_il (rnL_leu u_4.2 (rnL_lel u_4.1 (rgL_c (v := 1) (lo := 1) (hi := 1) (by decide)) (rgL_i (rg_any _))) (rgL_c (v := 4) (lo := 4) (hi := 4) (by decide)))))) (by decide))).2 (oh_fle (fM_0_7 hT0) (rg_w (lo := 1) (hi := 4) (rg_il (rgL_i (rg_il (rnL_leu u_4.2 (rnL_lel u_4.1 (rgL_c (v := 1) (lo := 1) (hi := 1) (by decide)) (rgL_i (rg_any _))) (rgL_c (v := 4) (lo := 4) (hi := 4) (by decide)))))) (by decide)) c_5))⟩⟩, ⟨by rw [ht]; exact hP, hD⟩⟩, hS.F ht⟩) hS.2.2 dX7_feed_82
        · refine lv_aload_n hx hb dX7_feed_46 rfl (lv_at hl 1 rfl) ?_
          refine va_get (D := D) (ci := 7) (v := .ref (a 7)) (C := RX7) (T := TX7) (N := 29) hx hb htg ig_7 hown hK hP 0 (oh_wg (Nat.lt_of_lt_of_le (by decide) hn) (sM_0 hT)) rfl 6 (by decide) (htg _ q_979) (fun _ h9 => h9) rfl dX7_feed_47 ?_
          refine lv_aload_n hx hb dX7_feed_50 rfl (lv_at hl 1 rfl) ?_
          refine lv_dup hx hb dX7_feed_51 rfl ?_
          refine va_get (D := D) (ci := 7) (v := .int (gi (K42 0) 7)) (C := RX7) (T := TX7) (N := 29) hx hb htg ig_7 hown hK hP 0 (oh_wg (Nat.lt_of_lt_of_le (by decide) hn) (sM_0 hT)) rfl 7 (by decide) (htg _ q_980) (fun _ h9 => h9) rfl dX7_feed_52 ?_
          refine lv_dup_x1 hx hb dX7_feed_55 rfl rfl ?_
          refine lv_iconst (v := 1) hx hb dX7_feed_56 (by decide) ?_
          refine lv_iadd hx hb dX7_feed_57 ?_
          refine th_put (Tp := TyM a E) (Rl := fr [(7, 8), (8, 9)] [7] C) (ci := 7) (v := .int ((gi (K42 0) 7) + 1)) (ty := .int) (CC := RX7) (T := TX7) (N := 29) hx hb htg ig_7 tyX7 tyX7_ok nmX7 hown hK hP hD hS 0 (Nat.lt_of_lt_of_le (by decide) hn) (sM_0 hT) rfl 7 (by decide) (htg _ q_980) (fun _ h9 => h9) rfl (by decide +kernel) rfl rfl (Nat.le_of_ble_eq_true rfl) (hT.up 0 (by decide) ⟨rfl, (rg_w (rg_add (lo := 1) (hi := 250) (l := 0) (u := 249) ⟨(fM_0_7 t_6).1, (oh_ap1 (rg_w (rn_lel (Int32.not_lt.mp c_7) (rg_c (v := 0) (lo := 0) (hi := 0) (by decide)) hz42_3) (by decide)) (fM_0_7 hT0) (rg_w (lo := 1) (hi := 4) (rg_il (rgL_i (rg_il (rnL_leu u_4.2 (rnL_lel u_4.1 (rgL_c (v := 1) (lo := 1) (hi := 1) (by decide)) (rgL_i (rg_any _))) (rgL_c (v := 4) (lo := 4) (hi := 4) (by decide)))))) (by decide)) (oh_fdp (fM_0_7 hT0) (oh_rgI (p := 1) (q := 4) (rg_w (lo := 1) (hi := 4) (rg_il (rgL_i (rg_il (rnL_leu u_4.2 (rnL_lel u_4.1 (rgL_c (v := 1) (lo := 1) (hi := 1) (by decide)) (rgL_i (rg_any _))) (rgL_c (v := 4) (lo := 4) (hi := 4) (by decide)))))) (by decide))).1 (oh_rgI (p := 1) (q := 4) (rg_w (lo := 1) (hi := 4) (rg_il (rgL_i (rg_il (rnL_leu u_4.2 (rnL_lel u_4.1 (rgL_c (v := 1) (lo := 1) (hi := 1) (by decide)) (rgL_i (rg_any _))) (rgL_c (v := 4) (lo := 4) (hi := 4) (by decide)))))) (by decide))).2 (oh_fle (fM_0_7 hT0) (rg_w (lo := 1) (hi := 4) (rg_il (rgL_i (rg_il (rnL_leu u_4.2 (rnL_lel u_4.1 (rgL_c (v := 1) (lo := 1) (hi := 1) (by decide)) (rgL_i (rg_any _))) (rgL_c (v := 4) (lo := 4) (hi := 4) (by decide)))))) (by decide)) c_5)) hv_42).2⟩ (rg_c (v := 1) (lo := 1) (hi := 1) (by decide)) (by decide)) (by decide)), (fM_0_9 hT), (fM_0_11 hT), (fM_0_13 hT), (fM_0_15 hT), (fM_0_21 hT), (fM_0_23 hT)⟩) (fr_fd hF (sM_0 hT) (by decide)) dX7_feed_58 (fun C_8 H locs e_9 hT hF hP hD hS => ?_)
          have t_10 := hT
          refine lv_iload_n hx hb dX7_feed_61 rfl (lv_at hl 2 rfl) ?_
          refine lv_bipush (v := 8) hx hb dX7_feed_62 (by decide) ?_
          refine lv_iload_n hx hb dX7_feed_64 rfl (lv_at hl 0 rfl) ?_
          refine lv_imul hx hb dX7_feed_65 ?_
          refine lv_ishr hx hb dX7_feed_66 ?_
          refine lv_sipush (v := 255) hx hb dX7_feed_67 (by decide) ?_
          refine lv_iand hx hb dX7_feed_70 ?_
          have n_11 : vp_in (gi (K42 0) 7) 250 := (rg_in (l := 0) (u := 249) ⟨(fM_0_7 t_6).1, (oh_ap1 (rg_w (rn_lel (Int32.not_lt.mp c_7) (rg_c (v := 0) (lo := 0) (hi := 0) (by decide)) hz42_3) (by decide)) (fM_0_7 hT0) (rg_w (lo := 1) (hi := 4) (rg_il (rgL_i (rg_il (rnL_leu u_4.2 (rnL_lel u_4.1 (rgL_c (v := 1) (lo := 1) (hi := 1) (by decide)) (rgL_i (rg_any _))) (rgL_c (v := 4) (lo := 4) (hi := 4) (by decide)))))) (by decide)) (oh_fdp (fM_0_7 hT0) (oh_rgI (p := 1) (q := 4) (rg_w (lo := 1) (hi := 4) (rg_il (rgL_i (rg_il (rnL_leu u_4.2 (rnL_lel u_4.1 (rgL_c (v := 1) (lo := 1) (hi := 1) (by decide)) (rgL_i (rg_any _))) (rgL_c (v := 4) (lo := 4) (hi := 4) (by decide)))))) (by decide))).1 (oh_rgI (p := 1) (q := 4) (rg_w (lo := 1) (hi := 4) (rg_il (rgL_i (rg_il (rnL_leu u_4.2 (rnL_lel u_4.1 (rgL_c (v := 1) (lo := 1) (hi := 1) (by decide)) (rgL_i (rg_any _))) (rgL_c (v := 4) (lo := 4) (hi := 4) (by decide)))))) (by decide))).2 (oh_fle (fM_0_7 hT0) (rg_w (lo := 1) (hi := 4) (rg_il (rgL_i (rg_il (rnL_leu u_4.2 (rnL_lel u_4.1 (rgL_c (v := 1) (lo := 1) (hi := 1) (by decide)) (rgL_i (rg_any _))) (rgL_c (v := 4) (lo := 4) (hi := 4) (by decide)))))) (by decide)) c_5)) hv_42).2⟩ (by decide))
          refine th_iast (T := TyM a E) (Rl := fr [(7, 8), (8, 9)] [7] C) hx hb hK hP hD hS 7 (Nat.lt_of_lt_of_le (by decide) hn) (sM_7 hT) n_11 (hT.up 7 (by decide) (tA_upd (tM_7 hT) tA_any)) (fr_st hF (by decide) (by decide)) dX7_feed_71 (fun C_12 H locs e_13 hT hF hP hD hS => ?_)
          have t_14 := hT
          refine lv_iinc (v := z42_3 + (-1)) (lv' := [(3, .int (z42_3 + (-1))), (0, .ref (a 0)), (1, .int x1), (2, .int x2)]) hx hb dX7_feed_72 hl (k := 0) rfl (by rfl) (by decide) rfl (fun ls hl => ?_)
          refine lv_goto (tgt := 42) hx hb dX7_feed_75 (by decide) ?_
          exact ih_42 _ (hd_42 ▸ mu_dn (rn_lel (Int32.not_lt.mp c_7) (rg_c (v := 0) (lo := 0) (hi := 0) (by decide)) hz42_3) (by decide)) C_12 (z42_3 + (-1)) _ _ ls rfl (rg_w (rg_add (lo := (-1)) (hi := 2) (rn_lel (Int32.not_lt.mp c_7) (rg_c (v := 0) (lo := 0) (hi := 0) (by decide)) hz42_3) (rg_c (v := (-1)) (lo := (-1)) (hi := (-1)) (by decide)) (by decide)) (by decide)) (by rw [(Eq.trans (congrArg (fun z => gi z 7) (th_un e_13 (by decide))) (show gi (C_8 0) 7 = ((gi (K42 0) 7) + 1) by rw [e_9]; rfl)), oh_add1 ⟨(fM_0_7 t_6).1, (oh_ap1 (rg_w (rn_lel (Int32.not_lt.mp c_7) (rg_c (v := 0) (lo := 0) (hi := 0) (by decide)) hz42_3) (by decide)) (fM_0_7 hT0) (rg_w (lo := 1) (hi := 4) (rg_il (rgL_i (rg_il (rnL_leu u_4.2 (rnL_lel u_4.1 (rgL_c (v := 1) (lo := 1) (hi := 1) (by decide)) (rgL_i (rg_any _))) (rgL_c (v := 4) (lo := 4) (hi := 4) (by decide)))))) (by decide)) (oh_fdp (fM_0_7 hT0) (oh_rgI (p := 1) (q := 4) (rg_w (lo := 1) (hi := 4) (rg_il (rgL_i (rg_il (rnL_leu u_4.2 (rnL_lel u_4.1 (rgL_c (v := 1) (lo := 1) (hi := 1) (by decide)) (rgL_i (rg_any _))) (rgL_c (v := 4) (lo := 4) (hi := 4) (by decide)))))) (by decide))).1 (oh_rgI (p := 1) (q := 4) (rg_w (lo := 1) (hi := 4) (rg_il (rgL_i (rg_il (rnL_leu u_4.2 (rnL_lel u_4.1 (rgL_c (v := 1) (lo := 1) (hi := 1) (by decide)) (rgL_i (rg_any _))) (rgL_c (v := 4) (lo := 4) (hi := 4) (by decide)))))) (by decide))).2 (oh_fle (fM_0_7 hT0) (rg_w (lo := 1) (hi := 4) (rg_il (rgL_i (rg_il (rnL_leu u_4.2 (rnL_lel u_4.1 (rgL_c (v := 1) (lo := 1) (hi := 1) (by decide)) (rgL_i (rg_any _))) (rgL_c (v := 4) (lo := 4) (hi := 4) (by decide)))))) (by decide)) c_5)) hv_42).2⟩, oh_sub1 (rg_w (rn_lel (Int32.not_lt.mp c_7) (rg_c (v := 0) (lo := 0) (hi := 0) (by decide)) hz42_3) (by decide))]; omega) (Eq.trans (fz_s (rg_w (rn_lel (Int32.not_lt.mp c_7) (rg_c (v := 0) (lo := 0) (hi := 0) (by decide)) hz42_3) (by decide)) ⟨(fM_0_7 t_6).1, (oh_ap1 (rg_w (rn_lel (Int32.not_lt.mp c_7) (rg_c (v := 0) (lo := 0) (hi := 0) (by decide)) hz42_3) (by decide)) (fM_0_7 hT0) (rg_w (lo := 1) (hi := 4) (rg_il (rgL_i (rg_il (rnL_leu u_4.2 (rnL_lel u_4.1 (rgL_c (v := 1) (lo := 1) (hi := 1) (by decide)) (rgL_i (rg_any _))) (rgL_c (v := 4) (lo := 4) (hi := 4) (by decide)))))) (by decide)) (oh_fdp (fM_0_7 hT0) (oh_rgI (p := 1) (q := 4) (rg_w (lo := 1) (hi := 4) (rg_il (rgL_i (rg_il (rnL_leu u_4.2 (rnL_lel u_4.1 (rgL_c (v := 1) (lo := 1) (hi := 1) (by decide)) (rgL_i (rg_any _))) (rgL_c (v := 4) (lo := 4) (hi := 4) (by decide)))))) (by decide))).1 (oh_rgI (p := 1) (q := 4) (rg_w (lo := 1) (hi := 4) (rg_il (rgL_i (rg_il (rnL_leu u_4.2 (rnL_lel u_4.1 (rgL_c (v := 1) (lo := 1) (hi := 1) (by decide)) (rgL_i (rg_any _))) (rgL_c (v := 4) (lo := 4) (hi := 4) (by decide)))))) (by decide))).2 (oh_fle (fM_0_7 hT0) (rg_w (lo := 1) (hi := 4) (rg_il (rgL_i (rg_il (rnL_leu u_4.2 (rnL_lel u_4.1 (rgL_c (v := 1) (lo := 1) (hi := 1) (by decide)) (rgL_i (rg_any _))) (rgL_c (v := 4) (lo := 4) (hi := 4) (by decide)))))) (by decide)) c_5)) hv_42).2⟩ (Eq.trans (st_ga e_13) (congrArg (fun z => upd z _ _) (congrArg ga (th_un e_9 (by decide))))) (Eq.trans (congrArg (fun z => gi z 7) (th_un e_13 (by decide))) (show gi (C_8 0) 7 = ((gi (K42 0) 7) + 1) by rw [e_9]; rfl))) hb_42) hT hF (fr_ste (fr_fde hLF_42 e_9 (sM_0 t_6) (by decide)) e_13 (by decide) (by decide)) hP hD hS (lv_sub hl [0, 1, 2, 3] rfl)
      exact L_42 _ C (x2 - 1) _ _ ls rfl (rg_w (rg_sub (lo := 0) (hi := 3) (rg_il (rgL_i (rg_il (rnL_leu u_4.2 (rnL_lel u_4.1 (rgL_c (v := 1) (lo := 1) (hi := 1) (by decide)) (rgL_i (rg_any _))) (rgL_c (v := 4) (lo := 4) (hi := 4) (by decide)))))) (rg_c (v := 1) (lo := 1) (hi := 1) (by decide)) (by decide)) (by decide)) (by rw [oh_sub1' (rg_w (lo := 1) (hi := 4) (rg_il (rgL_i (rg_il (rnL_leu u_4.2 (rnL_lel u_4.1 (rgL_c (v := 1) (lo := 1) (hi := 1) (by decide)) (rgL_i (rg_any _))) (rgL_c (v := 4) (lo := 4) (hi := 4) (by decide)))))) (by decide))]; omega) (fz_0 (rg_w (lo := 1) (hi := 4) (rg_il (rgL_i (rg_il (rnL_leu u_4.2 (rnL_lel u_4.1 (rgL_c (v := 1) (lo := 1) (hi := 1) (by decide)) (rgL_i (rg_any _))) (rgL_c (v := 4) (lo := 4) (hi := 4) (by decide)))))) (by decide))) hT hF fr_rf hP hD hS (lv_sub hl [0, 1, 2, 3] rfl)
    · refine lv_aload_n hx hb dX7_feed_31 rfl (lv_at hl 0 rfl) ?_
      refine lv_bipush (v := (-6)) hx hb dX7_feed_32 (by decide) ?_
      refine tm_V (As := [.int (-6)]) (rest := []) ⟨hx, hb, hml, hown, htg⟩ (c_X7_refuse l D E G _ a C n hn hT ((-6) : Int32) (rg_w (rg_c (v := (-6)) (lo := (-6)) (hi := (-6)) (by decide)) (by decide))) (cwV 1 htg (oh_gV q_1071 q_1073 q_29 q_73 q_1074) rfl rfl rfl pdVX7_refuse ⟨Nat.le_of_ble_eq_true rfl, Nat.le_of_ble_eq_true rfl⟩) hK hP hD hG hS hA (va_recv hK hP (ci := 7) (q0 := 0) rfl (oh_wg (Nat.lt_of_lt_of_le (by decide) hn) (sM_0 hT))) rfl hl.1 rfl (Nat.le_of_ble_eq_true rfl) dX7_feed_34 ⟨Nat.le_of_ble_eq_true rfl, Nat.le_of_ble_eq_true rfl⟩ (fun r_15 C_16 H locs hq_17 hP hD hS => ?_)
      obtain ⟨hT, f_18, hq_17⟩ := hq_17
      have hF := fr_tr hF f_18 (by decide) (by decide)
      refine W.widen (k := 0) (n := 0) (Nat.le_refl _) (Nat.le_refl _) ?_
      have t_19 := hT
      rw [hQ]
      exact W.iret (v := r_15) hx hb hr (fun t ht hW => ⟨⟨r_15, C_16, rfl, ⟨hT, hF, ⟨⟨hR.1.fr hF (by decide), hR.2.fr hF (by decide)⟩, (oh_fd2 hq_17 (oh_rgI (p := 1) (q := 4) (rg_w (lo := 1) (hi := 4) (rg_il (rgL_i (rg_il (rnL_leu u_4.2 (rnL_lel u_4.1 (rgL_c (v := 1) (lo := 1) (hi := 1) (by decide)) (rgL_i (rg_any _))) (rgL_c (v := 4) (lo := 4) (hi := 4) (by decide)))))) (by decide))).1 (oh_rgI (p := 1) (q := 4) (rg_w (lo := 1) (hi := 4) (rg_il (rgL_i (rg_il (rnL_leu u_4.2 (rnL_lel u_4.1 (rgL_c (v := 1) (lo := 1) (hi := 1) (by decide)) (rgL_i (rg_any _))) (rgL_c (v := 4) (lo := 4) (hi := 4) (by decide)))))) (by decide))).2 (oh_flt (fM_0_7 hT0) (rg_w (lo := 1) (hi := 4) (rg_il (rgL_i (rg_il (rnL_leu u_4.2 (rnL_lel u_4.1 (rgL_c (v := 1) (lo := 1) (hi := 1) (by decide)) (rgL_i (rg_any _))) (rgL_c (v := 4) (lo := 4) (hi := 4) (by decide)))))) (by decide)) (Int32.not_le.mp c_5))), (oh_fz2 (congrArg vi (f_18.2 7 (by decide))) (oh_rgI (p := 1) (q := 4) (rg_w (lo := 1) (hi := 4) (rg_il (rgL_i (rg_il (rnL_leu u_4.2 (rnL_lel u_4.1 (rgL_c (v := 1) (lo := 1) (hi := 1) (by decide)) (rgL_i (rg_any _))) (rgL_c (v := 4) (lo := 4) (hi := 4) (by decide)))))) (by decide))).1 (oh_rgI (p := 1) (q := 4) (rg_w (lo := 1) (hi := 4) (rg_il (rgL_i (rg_il (rnL_leu u_4.2 (rnL_lel u_4.1 (rgL_c (v := 1) (lo := 1) (hi := 1) (by decide)) (rgL_i (rg_any _))) (rgL_c (v := 4) (lo := 4) (hi := 4) (by decide)))))) (by decide))).2 (oh_flt (fM_0_7 hT0) (rg_w (lo := 1) (hi := 4) (rg_il (rgL_i (rg_il (rnL_leu u_4.2 (rnL_lel u_4.1 (rgL_c (v := 1) (lo := 1) (hi := 1) (by decide)) (rgL_i (rg_any _))) (rgL_c (v := 4) (lo := 4) (hi := 4) (by decide)))))) (by decide)) (Int32.not_le.mp c_5))), (ff2 (congrArg ga (f_18.1 7 rfl (by decide))) (oh_rgI (p := 1) (q := 4) (rg_w (lo := 1) (hi := 4) (rg_il (rgL_i (rg_il (rnL_leu u_4.2 (rnL_lel u_4.1 (rgL_c (v := 1) (lo := 1) (hi := 1) (by decide)) (rgL_i (rg_any _))) (rgL_c (v := 4) (lo := 4) (hi := 4) (by decide)))))) (by decide))).1 (oh_rgI (p := 1) (q := 4) (rg_w (lo := 1) (hi := 4) (rg_il (rgL_i (rg_il (rnL_leu u_4.2 (rnL_lel u_4.1 (rgL_c (v := 1) (lo := 1) (hi := 1) (by decide)) (rgL_i (rg_any _))) (rgL_c (v := 4) (lo := 4) (hi := 4) (by decide)))))) (by decide))).2 (oh_flt (fM_0_7 hT0) (rg_w (lo := 1) (hi := 4) (rg_il (rgL_i (rg_il (rnL_leu u_4.2 (rnL_lel u_4.1 (rgL_c (v := 1) (lo := 1) (hi := 1) (by decide)) (rgL_i (rg_any _))) (rgL_c (v := 4) (lo := 4) (hi := 4) (by decide)))))) (by decide)) (Int32.not_le.mp c_5)))⟩⟩, ⟨by rw [ht]; exact hP, hD⟩⟩, hS.F ht⟩) hS.2.2 dX7_feed_37
  · have u_20 := hq_2.2.2 c_3
    refine lv_aload_n hx hb dX7_feed_12 rfl (lv_at hl 0 rfl) ?_
    refine lv_bipush (v := (-2)) hx hb dX7_feed_13 (by decide) ?_
    refine tm_V (As := [.int (-2)]) (rest := []) ⟨hx, hb, hml, hown, htg⟩ (c_X7_refuse l D E G _ a C n hn hT ((-2) : Int32) (rg_w (rg_c (v := (-2)) (lo := (-2)) (hi := (-2)) (by decide)) (by decide))) (cwV 1 htg (oh_gV q_1071 q_1073 q_29 q_73 q_1074) rfl rfl rfl pdVX7_refuse ⟨Nat.le_of_ble_eq_true rfl, Nat.le_of_ble_eq_true rfl⟩) hK hP hD hG hS hA (va_recv hK hP (ci := 7) (q0 := 0) rfl (oh_wg (Nat.lt_of_lt_of_le (by decide) hn) (sM_0 hT))) rfl hl.1 rfl (Nat.le_of_ble_eq_true rfl) dX7_feed_15 ⟨Nat.le_of_ble_eq_true rfl, Nat.le_of_ble_eq_true rfl⟩ (fun r_21 C_22 H locs hq_23 hP hD hS => ?_)
    obtain ⟨hT, f_24, hq_23⟩ := hq_23
    have hF := fr_tr hF f_24 (by decide) (by decide)
    refine W.widen (k := 0) (n := 0) (Nat.le_refl _) (Nat.le_refl _) ?_
    have t_25 := hT
    rw [hQ]
    exact W.iret (v := r_21) hx hb hr (fun t ht hW => ⟨⟨r_21, C_22, rfl, ⟨hT, hF, ⟨⟨hR.1.fr hF (by decide), hR.2.fr hF (by decide)⟩, (oh_fd1 hq_23 (oh_in64 (l' := 1) (k' := 4) rfl rfl u_20)), (oh_fz1 (congrArg vi (f_24.2 7 (by decide))) (oh_in64 (l' := 1) (k' := 4) rfl rfl u_20)), (ff1 (congrArg ga (f_24.1 7 rfl (by decide))) (oh_in64 (l' := 1) (k' := 4) rfl rfl u_20))⟩⟩, ⟨by rw [ht]; exact hP, hD⟩⟩, hS.F ht⟩) hS.2.2 dX7_feed_18
/-! EXACT: what is told of the land -/
noncomputable def spRoadOf (A : LA) (r w : Int32) : Int32 := pif ((0 ≤ r ∧ r < A 5 0 0) ∧ (0 ≤ w ∧ w ≤ 6)) (A 0 r.toNatClampNeg w.toNatClampNeg) (-2)
noncomputable def spLen (A : LA) (w : Int32) : Int32 := pif (0 ≤ w ∧ w < A 5 0 2) (A 2 w.toNatClampNeg 1 * (A 2 w.toNatClampNeg 0 - 1) + 4) (-2)
def okPk (n2 n3 w s : Int32) : Prop := (0 ≤ w ∧ w < n2) ∧ (0 ≤ s ∧ s ≤ ((1 : Int32) <<< (n3 &&& 31)) - 1)
noncomputable def spBegin (A : LA) (w s f t : Int32) : Int32 := pif (okPk (A 5 0 2) (A 5 0 3) w s ∧ (0 ≤ f ∧ f ≤ 15) ∧ (0 ≤ t ∧ t ≤ 15)) 1 (-2)
theorem colX_v {C : Nat → va_E} {A : LA} {t : Nat} {r w W : Int32} {ur uw : Int} (hA : absX 10 C A) (ht : t < 4) (hr : rg r 0 ur) (hW : W.toInt = (wid t : Int)) (hw : rg w 0 uw) (hd : decide (ur * wid t + uw ≤ 2147483647 ∧ 0 ≤ ur ∧ uw < (wid t : Int)) = true) (hl : r < A 5 0 t) (hv : vis t w.toNatClampNeg) : ga (C (10 + 1 + t)) (r * W + w).toNatClampNeg = A t r.toNatClampNeg w.toNatClampNeg := by
  have h2 := of_decide_eq_true hd
  have e2 := oh_nat hw (by decide)
  rw [oh_rixz hr hW hw (decide_eq_true ⟨h2.1, h2.2.1⟩)]
  exact hA.2.2 t ht r.toNatClampNeg (by rw [oh_nat hr (by decide)]; exact Int32.lt_iff_toInt_lt.mp hl) _ (by have := hw.2; omega) hv
theorem colM_v {C : Nat → va_E} {A : LA} {t j : Nat} {r : Int32} {ur : Int} (hA : absM C A) (ht : t < 4) (hr : rg r 0 ur) (hj : j < wid t) (hl : r < A 5 0 t) (hv : vis t j) : ga (C (blk t + r.toNatClampNeg)) j = A t r.toNatClampNeg j := hA.2.2 t ht r.toNatClampNeg (by rw [oh_nat hr (by decide)]; exact Int32.lt_iff_toInt_lt.mp hl) j hj hv

set_option maxHeartbeats 4000000 in
set_option maxRecDepth 100000 in
theorem e_X6_isWaggon (l : Launch) (D : va_G) (E : Nat → ClassId) (G : Nat → Nat) (a : Nat → Nat) (C : Nat → va_E) (hT : TyX a E C) (x1 : Int32) : Met l yX6_isWaggon (oh_w yX6_isWaggon cX6_isWaggon 2 (some .boolean)) ({ frames := 1, cells := 0, slots := 0, locals := 22 }) (oh_Pp D E G [.ref (a 0), .int x1] (oh_W 35 a C)) (vp_Si (fun r => (r = 0 ∨ r = 1) ∧ (r ≠ 0 → rg x1 0 4 ∧ ((0 : Int32) ≤ x1 ∧ x1 < ga (C 10) ((2 : Int32)).toNatClampNeg)) ∧ (r = 0 → (¬ ((0 : Int32) ≤ x1 ∧ x1 < ga (C 10) ((2 : Int32)).toNatClampNeg))))) 0 0 (fun _ => False) := by
  refine Met.ofW (cc := cX6_isWaggon) (maxL := 2) (ret := (some .boolean)) (by decide) rfl ?_
  intro p e s m args below meth c s₁ B hml hv
  obtain ⟨rfl, hP, hK, hG⟩ := hv
  have hx := B.exec
  have hb := B.bytes
  have hr := B.returns
  have hts := atoms_spec (ws := (oh_w yX6_isWaggon cX6_isWaggon 2 (some .boolean))) B.pre
  have htg : ∀ w ∈ oh_t, w.before _ s = true := fun w h => hts w (List.mem_cons_of_mem _ h)
  have hown : s.vm.findClass RX6 = some m.cls := findClass_of_methodNamed B.named
  have hlocks := B.notSynchronized
  have hT0 := hT
  have hS : va_S (fun _ => False) s.heap s.heap [] := va_S.rf
  have hl := lv_entry ([.ref (a 0), .int x1]) (n := 2) (Nat.le_of_ble_eq_true rfl)
  rw [lg_entry_eq]
  generalize (lg_sl ([.ref (a 0), .int x1]) ++ List.replicate (2 - (lg_sl ([.ref (a 0), .int x1])).length) Slot.unset).toArray = ls at hl ⊢
  have hl : lv_has ls 2 [(0, .ref (a 0)), (1, .int x1)] := hl
  refine oh_genQ (fun Q hQ => ?_)
  refine lv_iload_n hx hb dX6_isWaggon_0 rfl (lv_at hl 1 rfl) ?_
  refine lv_iconst (v := 0) hx hb dX6_isWaggon_1 (by decide) ?_
  refine lv_aload_n hx hb dX6_isWaggon_2 rfl (lv_at hl 0 rfl) ?_
  refine va_get (D := D) (ci := 6) (v := .ref (a 1)) (C := RX6) (T := TX6) (N := 9) hx hb htg ig_6 hown hK hP 0 (oh_wg (by decide) (sX_0 hT)) rfl 0 (by decide) (htg _ q_258) (fun _ h9 => h9) rfl dX6_isWaggon_3 ?_
  refine va_get (D := D) (ci := 0) (v := .ref (a 10)) (C := RX0) (T := TX0) (N := 8) hx hb htg ig_0 hown hK hP 1 (oh_wg (by decide) (sX_1 hT)) rfl 0 (by decide) (htg _ q_100) (fun _ h9 => h9) rfl dX6_isWaggon_6 ?_
  refine lv_iconst (v := 2) hx hb dX6_isWaggon_9 (by decide) ?_
  refine th_iald hx hb hK hP 10 (by decide) (sX_10 hT) (rg_in (rg_c (v := 2) (lo := 2) (hi := 2) (by decide)) (by decide)) dX6_isWaggon_10 ?_
  refine lv_iconst (v := 1) hx hb dX6_isWaggon_11 (by decide) ?_
  refine lv_isub hx hb dX6_isWaggon_12 ?_
  refine tq_S (As := [.int x1, .int 0, .int ((ga (C 10) ((2 : Int32)).toNatClampNeg) - 1)]) (rest := []) (ws := []) ⟨hx, hb, hml, hown, htg⟩ (c_X6_within l D E G x1 (0 : Int32) ((ga (C 10) ((2 : Int32)).toNatClampNeg) - 1)) (va_cwS 3 htg (oh_gS q_293 q_294 q_66 q_295) rfl rfl rfl pdX6_within ⟨Nat.le_of_ble_eq_true rfl, Nat.le_of_ble_eq_true rfl⟩) hK va_nil hG hS rfl hl.1 rfl (Nat.le_of_ble_eq_true rfl) dX6_isWaggon_13 ⟨Nat.le_of_ble_eq_true rfl, Nat.le_of_ble_eq_true rfl⟩ (fun r_1 hq_2 => ?_)
  rw [hQ]
  exact W.zret (v := r_1) (ty := .boolean) hx hb hr (oh_nb hq_2.1) (fun t ht hW => ⟨r_1, rfl, ⟨hq_2.1, (fun h9 => ⟨(rg_w (rn_leu (hq_2.2.1 h9).2 (rn_lel (hq_2.2.1 h9).1 (rg_c (v := 0) (lo := 0) (hi := 0) (by decide)) (rg_any _)) (rg_sub (lo := (-1)) (hi := 4) (tA_rdc (lo := 0) (hi := 5) (tX_10 hT0) (rg_in (rg_c (v := 2) (lo := 2) (hi := 2) (by decide)) (by decide)) (show _ = 2 by decide) (by decide)) (rg_c (v := 1) (lo := 1) (hi := 1) (by decide)) (by decide))) (by decide)), ⟨(hq_2.2.1 h9).1, oh_ltX (cntX 2 hT0 (by decide)) (hq_2.2.1 h9).2⟩⟩), (fun h9 => (fun h8 => (hq_2.2.2 h9) ((is_n (cntX 2 hT0 (by decide))).mpr h8)))⟩, ht⟩) (fun q h => by cases h) dX6_isWaggon_16

set_option maxHeartbeats 4000000 in
set_option maxRecDepth 100000 in
theorem e_X6_roadOf (l : Launch) (D : va_G) (E : Nat → ClassId) (G : Nat → Nat) (sz : Nat) (a : Nat → Nat) (C : Nat → va_E) (hT : TyX a E C) (x1 : Int32) (x2 : Int32) : Met l yX6_roadOf (oh_w yX6_roadOf cX6_roadOf 3 (some .int)) ({ frames := 2, cells := 0, slots := 0, locals := 44 }) (oh_Pm D E G [.ref (a 0), .int x1, .int x2] (oh_W 35 a C) sz) (va_Qi (fun r (u : Nat → va_E) => TyX a E u ∧ fr [(7, 8)] [] C u ∧ (∀ A : LA, absX 10 C A → r = spRoadOf A x1 x2)) (oh_B D (va_A (oh_W 35 a C) sz) (fun u => oh_W 35 a u)) (va_A (oh_W 35 a C) sz)) 0 0 (va_A (oh_W 35 a C) sz) := by
  refine Met.ofW (cc := cX6_roadOf) (maxL := 3) (ret := (some .int)) (by decide) rfl ?_
  intro p e s m args below meth c s₁ B hml hv
  obtain ⟨rfl, hsz, hP, hK, hD0, hG⟩ := hv
  have hx := B.exec
  have hb := B.bytes
  have hr := B.returns
  have hts := atoms_spec (ws := (oh_w yX6_roadOf cX6_roadOf 3 (some .int))) B.pre
  have htg : ∀ w ∈ oh_t, w.before _ s = true := fun w h => hts w (List.mem_cons_of_mem _ h)
  have hown : s.vm.findClass RX6 = some m.cls := findClass_of_methodNamed B.named
  have hlocks := B.notSynchronized
  have hT0 := hT
  subst hsz
  have hD := hD0.self (sz := s.heap.size)
  generalize hAe : va_A (oh_W 35 a C) s.heap.size = A at hD hG ⊢
  have hA : ∀ q : Nat, s.heap.size ≤ q → A q := fun q h => by rw [← hAe]; exact Or.inr h
  have hS : va_S A s.heap s.heap [] := va_S.rf
  have hF : fr [(7, 8)] [] C C := fr_rf
  have hl := lv_entry ([.ref (a 0), .int x1, .int x2]) (n := 3) (Nat.le_of_ble_eq_true rfl)
  rw [lg_entry_eq]
  generalize (lg_sl ([.ref (a 0), .int x1, .int x2]) ++ List.replicate (3 - (lg_sl ([.ref (a 0), .int x1, .int x2])).length) Slot.unset).toArray = ls at hl ⊢
  have hl : lv_has ls 3 [(0, .ref (a 0)), (1, .int x1), (2, .int x2)] := hl
  refine oh_genQ (fun Q hQ => ?_)
  refine lv_aload_n hx hb dX6_roadOf_0 rfl (lv_at hl 0 rfl) ?_
  refine lv_iload_n hx hb dX6_roadOf_1 rfl (lv_at hl 1 rfl) ?_
  refine tq_V (As := [.int x1]) (rest := []) (ws := (oh_W 35 a C)) ⟨hx, hb, hml, hown, htg⟩ (e_X6_isRoad l D E G a C hT x1) (cwV 1 htg (oh_gV q_428 q_430 q_5 q_66 q_431) rfl rfl rfl pdVX6_isRoad ⟨Nat.le_of_ble_eq_true rfl, Nat.le_of_ble_eq_true rfl⟩) hK hP hG hS (va_recv hK hP (ci := 6) (q0 := 0) rfl (oh_wg (by decide) (sX_0 hT))) rfl hl.1 rfl (Nat.le_of_ble_eq_true rfl) dX6_roadOf_2 ⟨Nat.le_of_ble_eq_true rfl, Nat.le_of_ble_eq_true rfl⟩ (fun r_1 hq_2 => ?_)
  refine lv_if_eq (tgt := 18) hx hb dX6_roadOf_5 (by decide) (fun (c_3 : r_1 = 0) => ?_) (fun (c_3 : ¬ (r_1 = 0)) => ?_)
  · have u_4 := hq_2.2.2 c_3
    refine lv_aload_n hx hb dX6_roadOf_18 rfl (lv_at hl 0 rfl) ?_
    refine lv_bipush (v := (-2)) hx hb dX6_roadOf_19 (by decide) ?_
    refine tm_V (As := [.int (-2)]) (rest := []) ⟨hx, hb, hml, hown, htg⟩ (c_X6_refuse l D E G _ a C hT ((-2) : Int32)) (cwV 1 htg (oh_gV q_296 q_298 q_0 q_66 q_299) rfl rfl rfl pdVX6_refuse ⟨Nat.le_of_ble_eq_true rfl, Nat.le_of_ble_eq_true rfl⟩) hK hP hD hG hS hA (va_recv hK hP (ci := 6) (q0 := 0) rfl (oh_wg (by decide) (sX_0 hT))) rfl hl.1 rfl (Nat.le_of_ble_eq_true rfl) dX6_roadOf_21 ⟨Nat.le_of_ble_eq_true rfl, Nat.le_of_ble_eq_true rfl⟩ (fun r_5 C_6 H locs hq_7 hP hD hS => ?_)
    obtain ⟨hT, f_8, hq_7⟩ := hq_7
    have hF := fr_tr hF f_8 (by decide) (by decide)
    refine W.widen (k := 0) (n := 0) (Nat.le_refl _) (Nat.le_refl _) ?_
    have t_9 := hT
    rw [hQ]
    exact W.iret (v := r_5) hx hb hr (fun t ht hW => ⟨⟨r_5, C_6, rfl, ⟨hT, hF, (fun A hA => Eq.trans hq_7 (pif_neg (fun h8 => by have h7 := h8.1; rw [← (show ga (C 10) ((0 : Int32)).toNatClampNeg = A 5 0 0 from hA.1 0 (by decide))] at h7; exact u_4 h7)).symm)⟩, ⟨by rw [ht]; exact hP, hD⟩⟩, hS.F ht⟩) hS.2.2 dX6_roadOf_24
  · have u_10 := hq_2.2.1 c_3
    refine lv_iload_n hx hb dX6_roadOf_8 rfl (lv_at hl 2 rfl) ?_
    refine lv_iconst (v := 0) hx hb dX6_roadOf_9 (by decide) ?_
    refine lv_bipush (v := 6) hx hb dX6_roadOf_10 (by decide) ?_
    refine tq_S (As := [.int x2, .int 0, .int 6]) (rest := []) (ws := []) ⟨hx, hb, hml, hown, htg⟩ (c_X6_within l D E G x2 (0 : Int32) (6 : Int32)) (va_cwS 3 htg (oh_gS q_293 q_294 q_66 q_295) rfl rfl rfl pdX6_within ⟨Nat.le_of_ble_eq_true rfl, Nat.le_of_ble_eq_true rfl⟩) hK va_nil hG hS rfl hl.1 rfl (Nat.le_of_ble_eq_true rfl) dX6_roadOf_12 ⟨Nat.le_of_ble_eq_true rfl, Nat.le_of_ble_eq_true rfl⟩ (fun r_11 hq_12 => ?_)
    refine lv_if_ne (tgt := 25) hx hb dX6_roadOf_15 (by decide) (fun (c_13 : ¬ (r_11 = 0)) => ?_) (fun (c_13 : r_11 = 0) => ?_)
    · have u_14 := hq_12.2.1 c_13
      refine lv_aload_n hx hb dX6_roadOf_25 rfl (lv_at hl 0 rfl) ?_
      refine va_get (D := D) (ci := 6) (v := .ref (a 1)) (C := RX6) (T := TX6) (N := 9) hx hb htg ig_6 hown hK hP 0 (oh_wg (by decide) (sX_0 hT)) rfl 0 (by decide) (htg _ q_258) (fun _ h9 => h9) rfl dX6_roadOf_26 ?_
      refine lv_iload_n hx hb dX6_roadOf_29 rfl (lv_at hl 1 rfl) ?_
      refine lv_iload_n hx hb dX6_roadOf_30 rfl (lv_at hl 2 rfl) ?_
      refine tq_V (As := [.int x1, .int x2]) (rest := []) (ws := (oh_W 35 a C)) ⟨hx, hb, hml, hown, htg⟩ (c_X0_ofRoad l D E G a C hT x1 x2 (rg_w u_10.1 (by decide)) (rg_w (rn_leu u_14.2 (rn_lel u_14.1 (rg_c (v := 0) (lo := 0) (hi := 0) (by decide)) (rg_any _)) (rg_c (v := 6) (lo := 6) (hi := 6) (by decide))) (by decide))) (cwV 2 htg (oh_gV q_479 q_480 q_481 q_67 q_482) rfl rfl rfl pdVX0_ofRoad ⟨Nat.le_of_ble_eq_true rfl, Nat.le_of_ble_eq_true rfl⟩) hK hP hG hS (va_recv hK hP (ci := 0) (q0 := 1) rfl (oh_wg (by decide) (sX_1 hT))) rfl hl.1 rfl (Nat.le_of_ble_eq_true rfl) dX6_roadOf_31 ⟨Nat.le_of_ble_eq_true rfl, Nat.le_of_ble_eq_true rfl⟩ (fun r_15 hq_16 => ?_)
      subst hq_16
      rw [hQ]
      exact W.iret (v := ga (C 11) ((x1 * 7) + x2).toNatClampNeg) hx hb hr (fun t ht hW => ⟨⟨ga (C 11) ((x1 * 7) + x2).toNatClampNeg, C, rfl, ⟨hT, hF, (fun A hA => Eq.trans (colX_v (t := 0) hA (by decide) (rg_w (lo := 0) (hi := 23) u_10.1 (by decide)) rfl (rg_w (lo := 0) (hi := 6) (rn_leu u_14.2 (rn_lel u_14.1 (rg_c (v := 0) (lo := 0) (hi := 0) (by decide)) (rg_any _)) (rg_c (v := 6) (lo := 6) (hi := 6) (by decide))) (by decide)) (by decide) (show 0 ≤ x1 ∧ x1 < A 5 0 0 by rw [← (show ga (C 10) ((0 : Int32)).toNatClampNeg = A 5 0 0 from hA.1 0 (by decide))]; exact u_10.2).2 (by unfold vis; omega)) (pif_pos ⟨(show 0 ≤ x1 ∧ x1 < A 5 0 0 by rw [← (show ga (C 10) ((0 : Int32)).toNatClampNeg = A 5 0 0 from hA.1 0 (by decide))]; exact u_10.2), (oh_rgI (p := 0) (q := 6) (rg_w (lo := 0) (hi := 6) (rn_leu u_14.2 (rn_lel u_14.1 (rg_c (v := 0) (lo := 0) (hi := 0) (by decide)) (rg_any _)) (rg_c (v := 6) (lo := 6) (hi := 6) (by decide))) (by decide)))⟩).symm)⟩, ⟨by rw [ht]; exact hP, hD⟩⟩, hS.F ht⟩) hS.2.2 dX6_roadOf_34
    · have u_17 := hq_12.2.2 c_13
      refine lv_aload_n hx hb dX6_roadOf_18 rfl (lv_at hl 0 rfl) ?_
      refine lv_bipush (v := (-2)) hx hb dX6_roadOf_19 (by decide) ?_
      refine tm_V (As := [.int (-2)]) (rest := []) ⟨hx, hb, hml, hown, htg⟩ (c_X6_refuse l D E G _ a C hT ((-2) : Int32)) (cwV 1 htg (oh_gV q_296 q_298 q_0 q_66 q_299) rfl rfl rfl pdVX6_refuse ⟨Nat.le_of_ble_eq_true rfl, Nat.le_of_ble_eq_true rfl⟩) hK hP hD hG hS hA (va_recv hK hP (ci := 6) (q0 := 0) rfl (oh_wg (by decide) (sX_0 hT))) rfl hl.1 rfl (Nat.le_of_ble_eq_true rfl) dX6_roadOf_21 ⟨Nat.le_of_ble_eq_true rfl, Nat.le_of_ble_eq_true rfl⟩ (fun r_18 C_19 H locs hq_20 hP hD hS => ?_)
      obtain ⟨hT, f_21, hq_20⟩ := hq_20
      have hF := fr_tr hF f_21 (by decide) (by decide)
      refine W.widen (k := 0) (n := 0) (Nat.le_refl _) (Nat.le_refl _) ?_
      have t_22 := hT
      rw [hQ]
      exact W.iret (v := r_18) hx hb hr (fun t ht hW => ⟨⟨r_18, C_19, rfl, ⟨hT, hF, (fun A hA => Eq.trans hq_20 (pif_neg (fun h8 => u_17 h8.2)).symm)⟩, ⟨by rw [ht]; exact hP, hD⟩⟩, hS.F ht⟩) hS.2.2 dX6_roadOf_24

set_option maxHeartbeats 4000000 in
set_option maxRecDepth 100000 in
theorem e_X0_waggonLength (l : Launch) (D : va_G) (E : Nat → ClassId) (G : Nat → Nat) (a : Nat → Nat) (C : Nat → va_E) (hT : TyX a E C) (x1 : Int32) (hx1 : rg x1 0 4) : Met l yX0_waggonLength (oh_w yX0_waggonLength cX0_waggonLength 2 (some .int)) ({ frames := 1, cells := 0, slots := 0, locals := 22 }) (oh_Pp D E G [.ref (a 1), .int x1] (oh_W 35 a C)) (vp_Si (fun r => r = ((ga (C 13) ((x1 * 3) + 1).toNatClampNeg) * ((ga (C 13) ((x1 * 3) + 0).toNatClampNeg) - 1)) + 4)) 0 0 (fun _ => False) := by
  refine Met.ofW (cc := cX0_waggonLength) (maxL := 2) (ret := (some .int)) (by decide) rfl ?_
  intro p e s m args below meth c s₁ B hml hv
  obtain ⟨rfl, hP, hK, hG⟩ := hv
  have hx := B.exec
  have hb := B.bytes
  have hr := B.returns
  have hts := atoms_spec (ws := (oh_w yX0_waggonLength cX0_waggonLength 2 (some .int))) B.pre
  have htg : ∀ w ∈ oh_t, w.before _ s = true := fun w h => hts w (List.mem_cons_of_mem _ h)
  have hown : s.vm.findClass RX0 = some m.cls := findClass_of_methodNamed B.named
  have hlocks := B.notSynchronized
  have hT0 := hT
  have hS : va_S (fun _ => False) s.heap s.heap [] := va_S.rf
  have hl := lv_entry ([.ref (a 1), .int x1]) (n := 2) (Nat.le_of_ble_eq_true rfl)
  rw [lg_entry_eq]
  generalize (lg_sl ([.ref (a 1), .int x1]) ++ List.replicate (2 - (lg_sl ([.ref (a 1), .int x1])).length) Slot.unset).toArray = ls at hl ⊢
  have hl : lv_has ls 2 [(0, .ref (a 1)), (1, .int x1)] := hl
  refine oh_genQ (fun Q hQ => ?_)
  refine lv_aload_n hx hb dX0_waggonLength_0 rfl (lv_at hl 0 rfl) ?_
  refine lv_iload_n hx hb dX0_waggonLength_1 rfl (lv_at hl 1 rfl) ?_
  refine lv_iconst (v := 1) hx hb dX0_waggonLength_2 (by decide) ?_
  refine tq_V (As := [.int x1, .int 1]) (rest := []) (ws := (oh_W 35 a C)) ⟨hx, hb, hml, hown, htg⟩ (c_X0_ofWaggon l D E G a C hT x1 (1 : Int32) (rg_w hx1 (by decide)) (rg_w (rg_c (v := 1) (lo := 1) (hi := 1) (by decide)) (by decide))) (cwV 2 htg (oh_gV q_687 q_688 q_689 q_67 q_690) rfl rfl rfl pdVX0_ofWaggon ⟨Nat.le_of_ble_eq_true rfl, Nat.le_of_ble_eq_true rfl⟩) hK hP hG hS (va_recv hK hP (ci := 0) (q0 := 1) rfl (oh_wg (by decide) (sX_1 hT))) rfl hl.1 rfl (Nat.le_of_ble_eq_true rfl) dX0_waggonLength_3 ⟨Nat.le_of_ble_eq_true rfl, Nat.le_of_ble_eq_true rfl⟩ (fun r_1 hq_2 => ?_)
  subst hq_2
  refine lv_aload_n hx hb dX0_waggonLength_6 rfl (lv_at hl 0 rfl) ?_
  refine lv_iload_n hx hb dX0_waggonLength_7 rfl (lv_at hl 1 rfl) ?_
  refine lv_iconst (v := 0) hx hb dX0_waggonLength_8 (by decide) ?_
  refine tq_V (As := [.int x1, .int 0]) (rest := [.int (ga (C 13) ((x1 * 3) + 1).toNatClampNeg)]) (ws := (oh_W 35 a C)) ⟨hx, hb, hml, hown, htg⟩ (c_X0_ofWaggon l D E G a C hT x1 (0 : Int32) (rg_w hx1 (by decide)) (rg_w (rg_c (v := 0) (lo := 0) (hi := 0) (by decide)) (by decide))) (cwV 2 htg (oh_gV q_687 q_688 q_689 q_67 q_690) rfl rfl rfl pdVX0_ofWaggon ⟨Nat.le_of_ble_eq_true rfl, Nat.le_of_ble_eq_true rfl⟩) hK hP hG hS (va_recv hK hP (ci := 0) (q0 := 1) rfl (oh_wg (by decide) (sX_1 hT))) rfl hl.1 rfl (Nat.le_of_ble_eq_true rfl) dX0_waggonLength_9 ⟨Nat.le_of_ble_eq_true rfl, Nat.le_of_ble_eq_true rfl⟩ (fun r_3 hq_4 => ?_)
  subst hq_4
  refine lv_iconst (v := 1) hx hb dX0_waggonLength_12 (by decide) ?_
  refine lv_isub hx hb dX0_waggonLength_13 ?_
  refine lv_imul hx hb dX0_waggonLength_14 ?_
  refine lv_iconst (v := 4) hx hb dX0_waggonLength_15 (by decide) ?_
  refine lv_iadd hx hb dX0_waggonLength_16 ?_
  rw [hQ]
  exact W.iret (v := ((ga (C 13) ((x1 * 3) + 1).toNatClampNeg) * ((ga (C 13) ((x1 * 3) + 0).toNatClampNeg) - 1)) + 4) hx hb hr (fun t ht hW => ⟨((ga (C 13) ((x1 * 3) + 1).toNatClampNeg) * ((ga (C 13) ((x1 * 3) + 0).toNatClampNeg) - 1)) + 4, rfl, rfl, ht⟩) (fun q h => by cases h) dX0_waggonLength_17

set_option maxHeartbeats 4000000 in
set_option maxRecDepth 100000 in
theorem e_X6_length (l : Launch) (D : va_G) (E : Nat → ClassId) (G : Nat → Nat) (sz : Nat) (a : Nat → Nat) (C : Nat → va_E) (hT : TyX a E C) (x1 : Int32) : Met l yX6_length (oh_w yX6_length cX6_length 2 (some .int)) ({ frames := 2, cells := 0, slots := 0, locals := 44 }) (oh_Pm D E G [.ref (a 0), .int x1] (oh_W 35 a C) sz) (va_Qi (fun r (u : Nat → va_E) => TyX a E u ∧ fr [(7, 8)] [] C u ∧ (∀ A : LA, absX 10 C A → r = spLen A x1)) (oh_B D (va_A (oh_W 35 a C) sz) (fun u => oh_W 35 a u)) (va_A (oh_W 35 a C) sz)) 0 0 (va_A (oh_W 35 a C) sz) := by
  refine Met.ofW (cc := cX6_length) (maxL := 2) (ret := (some .int)) (by decide) rfl ?_
  intro p e s m args below meth c s₁ B hml hv
  obtain ⟨rfl, hsz, hP, hK, hD0, hG⟩ := hv
  have hx := B.exec
  have hb := B.bytes
  have hr := B.returns
  have hts := atoms_spec (ws := (oh_w yX6_length cX6_length 2 (some .int))) B.pre
  have htg : ∀ w ∈ oh_t, w.before _ s = true := fun w h => hts w (List.mem_cons_of_mem _ h)
  have hown : s.vm.findClass RX6 = some m.cls := findClass_of_methodNamed B.named
  have hlocks := B.notSynchronized
  have hT0 := hT
  subst hsz
  have hD := hD0.self (sz := s.heap.size)
  generalize hAe : va_A (oh_W 35 a C) s.heap.size = A at hD hG ⊢
  have hA : ∀ q : Nat, s.heap.size ≤ q → A q := fun q h => by rw [← hAe]; exact Or.inr h
  have hS : va_S A s.heap s.heap [] := va_S.rf
  have hF : fr [(7, 8)] [] C C := fr_rf
  have hl := lv_entry ([.ref (a 0), .int x1]) (n := 2) (Nat.le_of_ble_eq_true rfl)
  rw [lg_entry_eq]
  generalize (lg_sl ([.ref (a 0), .int x1]) ++ List.replicate (2 - (lg_sl ([.ref (a 0), .int x1])).length) Slot.unset).toArray = ls at hl ⊢
  have hl : lv_has ls 2 [(0, .ref (a 0)), (1, .int x1)] := hl
  refine oh_genQ (fun Q hQ => ?_)
  refine lv_aload_n hx hb dX6_length_0 rfl (lv_at hl 0 rfl) ?_
  refine lv_iload_n hx hb dX6_length_1 rfl (lv_at hl 1 rfl) ?_
  refine tq_V (As := [.int x1]) (rest := []) (ws := (oh_W 35 a C)) ⟨hx, hb, hml, hown, htg⟩ (e_X6_isWaggon l D E G a C hT x1) (cwV 1 htg (oh_gV q_679 q_681 q_15 q_66 q_682) rfl rfl rfl pdVX6_isWaggon ⟨Nat.le_of_ble_eq_true rfl, Nat.le_of_ble_eq_true rfl⟩) hK hP hG hS (va_recv hK hP (ci := 6) (q0 := 0) rfl (oh_wg (by decide) (sX_0 hT))) rfl hl.1 rfl (Nat.le_of_ble_eq_true rfl) dX6_length_2 ⟨Nat.le_of_ble_eq_true rfl, Nat.le_of_ble_eq_true rfl⟩ (fun r_1 hq_2 => ?_)
  refine lv_if_ne (tgt := 15) hx hb dX6_length_5 (by decide) (fun (c_3 : ¬ (r_1 = 0)) => ?_) (fun (c_3 : r_1 = 0) => ?_)
  · have u_4 := hq_2.2.1 c_3
    refine lv_aload_n hx hb dX6_length_15 rfl (lv_at hl 0 rfl) ?_
    refine va_get (D := D) (ci := 6) (v := .ref (a 1)) (C := RX6) (T := TX6) (N := 9) hx hb htg ig_6 hown hK hP 0 (oh_wg (by decide) (sX_0 hT)) rfl 0 (by decide) (htg _ q_258) (fun _ h9 => h9) rfl dX6_length_16 ?_
    refine lv_iload_n hx hb dX6_length_19 rfl (lv_at hl 1 rfl) ?_
    refine tq_V (As := [.int x1]) (rest := []) (ws := (oh_W 35 a C)) ⟨hx, hb, hml, hown, htg⟩ (e_X0_waggonLength l D E G a C hT x1 (rg_w u_4.1 (by decide))) (cwV 1 htg (oh_gV q_683 q_684 q_685 q_67 q_686) rfl rfl rfl pdVX0_waggonLength ⟨Nat.le_of_ble_eq_true rfl, Nat.le_of_ble_eq_true rfl⟩) hK hP hG hS (va_recv hK hP (ci := 0) (q0 := 1) rfl (oh_wg (by decide) (sX_1 hT))) rfl hl.1 rfl (Nat.le_of_ble_eq_true rfl) dX6_length_20 ⟨Nat.le_of_ble_eq_true rfl, Nat.le_of_ble_eq_true rfl⟩ (fun r_5 hq_6 => ?_)
    subst hq_6
    rw [hQ]
    exact W.iret (v := ((ga (C 13) ((x1 * 3) + 1).toNatClampNeg) * ((ga (C 13) ((x1 * 3) + 0).toNatClampNeg) - 1)) + 4) hx hb hr (fun t ht hW => ⟨⟨((ga (C 13) ((x1 * 3) + 1).toNatClampNeg) * ((ga (C 13) ((x1 * 3) + 0).toNatClampNeg) - 1)) + 4, C, rfl, ⟨hT, hF, (fun A hA => Eq.trans (by rw [(show ga (C 13) (x1 * 3 + 1).toNatClampNeg = A 2 x1.toNatClampNeg 1 from colX_v (t := 2) (w := 1) hA (by decide) (rg_w (lo := 0) (hi := 4) u_4.1 (by decide)) rfl (rg_c (v := 1) (lo := 0) (hi := 1) (by decide)) (by decide) (show 0 ≤ x1 ∧ x1 < A 5 0 2 by rw [← (show ga (C 10) ((2 : Int32)).toNatClampNeg = A 5 0 2 from hA.1 2 (by decide))]; exact u_4.2).2 (by unfold vis; omega)), (show ga (C 13) (x1 * 3 + 0).toNatClampNeg = A 2 x1.toNatClampNeg 0 from colX_v (t := 2) (w := 0) hA (by decide) (rg_w (lo := 0) (hi := 4) u_4.1 (by decide)) rfl (rg_c (v := 0) (lo := 0) (hi := 0) (by decide)) (by decide) (show 0 ≤ x1 ∧ x1 < A 5 0 2 by rw [← (show ga (C 10) ((2 : Int32)).toNatClampNeg = A 5 0 2 from hA.1 2 (by decide))]; exact u_4.2).2 (by unfold vis; omega))]) (pif_pos (show 0 ≤ x1 ∧ x1 < A 5 0 2 by rw [← (show ga (C 10) ((2 : Int32)).toNatClampNeg = A 5 0 2 from hA.1 2 (by decide))]; exact u_4.2)).symm)⟩, ⟨by rw [ht]; exact hP, hD⟩⟩, hS.F ht⟩) hS.2.2 dX6_length_23
  · have u_7 := hq_2.2.2 c_3
    refine lv_aload_n hx hb dX6_length_8 rfl (lv_at hl 0 rfl) ?_
    refine lv_bipush (v := (-2)) hx hb dX6_length_9 (by decide) ?_
    refine tm_V (As := [.int (-2)]) (rest := []) ⟨hx, hb, hml, hown, htg⟩ (c_X6_refuse l D E G _ a C hT ((-2) : Int32)) (cwV 1 htg (oh_gV q_296 q_298 q_0 q_66 q_299) rfl rfl rfl pdVX6_refuse ⟨Nat.le_of_ble_eq_true rfl, Nat.le_of_ble_eq_true rfl⟩) hK hP hD hG hS hA (va_recv hK hP (ci := 6) (q0 := 0) rfl (oh_wg (by decide) (sX_0 hT))) rfl hl.1 rfl (Nat.le_of_ble_eq_true rfl) dX6_length_11 ⟨Nat.le_of_ble_eq_true rfl, Nat.le_of_ble_eq_true rfl⟩ (fun r_8 C_9 H locs hq_10 hP hD hS => ?_)
    obtain ⟨hT, f_11, hq_10⟩ := hq_10
    have hF := fr_tr hF f_11 (by decide) (by decide)
    refine W.widen (k := 0) (n := 0) (Nat.le_refl _) (Nat.le_refl _) ?_
    have t_12 := hT
    rw [hQ]
    exact W.iret (v := r_8) hx hb hr (fun t ht hW => ⟨⟨r_8, C_9, rfl, ⟨hT, hF, (fun A hA => Eq.trans hq_10 (pif_neg (by rw [← (show ga (C 10) ((2 : Int32)).toNatClampNeg = A 5 0 2 from hA.1 2 (by decide))]; exact u_7)).symm)⟩, ⟨by rw [ht]; exact hP, hD⟩⟩, hS.F ht⟩) hS.2.2 dX6_length_14

set_option maxHeartbeats 4000000 in
set_option maxRecDepth 100000 in
theorem e_X0_setsOfParts (l : Launch) (D : va_G) (E : Nat → ClassId) (G : Nat → Nat) (a : Nat → Nat) (C : Nat → va_E) (hT : TyX a E C) : Met l yX0_setsOfParts (oh_w yX0_setsOfParts cX0_setsOfParts 1 (some .int)) ({ frames := 0, cells := 0, slots := 0, locals := 0 }) (oh_Pp D E G [.ref (a 1)] (oh_W 35 a C)) (vp_Si (fun r => r = (1 : Int32) <<< ((ga (C 10) ((3 : Int32)).toNatClampNeg) &&& 31))) 0 0 (fun _ => False) := by
  refine Met.ofW (cc := cX0_setsOfParts) (maxL := 1) (ret := (some .int)) (by decide) rfl ?_
  intro p e s m args below meth c s₁ B hml hv
  obtain ⟨rfl, hP, hK, hG⟩ := hv
  have hx := B.exec
  have hb := B.bytes
  have hr := B.returns
  have hts := atoms_spec (ws := (oh_w yX0_setsOfParts cX0_setsOfParts 1 (some .int))) B.pre
  have htg : ∀ w ∈ oh_t, w.before _ s = true := fun w h => hts w (List.mem_cons_of_mem _ h)
  have hown : s.vm.findClass RX0 = some m.cls := findClass_of_methodNamed B.named
  have hlocks := B.notSynchronized
  have hT0 := hT
  have hS : va_S (fun _ => False) s.heap s.heap [] := va_S.rf
  have hl := lv_entry ([.ref (a 1)]) (n := 1) (Nat.le_of_ble_eq_true rfl)
  rw [lg_entry_eq]
  generalize (lg_sl ([.ref (a 1)]) ++ List.replicate (1 - (lg_sl ([.ref (a 1)])).length) Slot.unset).toArray = ls at hl ⊢
  have hl : lv_has ls 1 [(0, .ref (a 1))] := hl
  refine oh_genQ (fun Q hQ => ?_)
  refine lv_iconst (v := 1) hx hb dX0_setsOfParts_0 (by decide) ?_
  refine lv_aload_n hx hb dX0_setsOfParts_1 rfl (lv_at hl 0 rfl) ?_
  refine va_get (D := D) (ci := 0) (v := .ref (a 10)) (C := RX0) (T := TX0) (N := 8) hx hb htg ig_0 hown hK hP 1 (oh_wg (by decide) (sX_1 hT)) rfl 0 (by decide) (htg _ q_97) (fun _ h9 => h9) rfl dX0_setsOfParts_2 ?_
  refine lv_iconst (v := 3) hx hb dX0_setsOfParts_5 (by decide) ?_
  refine th_iald hx hb hK hP 10 (by decide) (sX_10 hT) (rg_in (rg_c (v := 3) (lo := 3) (hi := 3) (by decide)) (by decide)) dX0_setsOfParts_6 ?_
  refine lv_ishl hx hb dX0_setsOfParts_7 ?_
  rw [hQ]
  exact W.iret (v := (1 : Int32) <<< ((ga (C 10) ((3 : Int32)).toNatClampNeg) &&& 31)) hx hb hr (fun t ht hW => ⟨(1 : Int32) <<< ((ga (C 10) ((3 : Int32)).toNatClampNeg) &&& 31), rfl, rfl, ht⟩) (fun q h => by cases h) dX0_setsOfParts_8

set_option maxHeartbeats 4000000 in
set_option maxRecDepth 100000 in
theorem e_X6_isPack (l : Launch) (D : va_G) (E : Nat → ClassId) (G : Nat → Nat) (a : Nat → Nat) (C : Nat → va_E) (hT : TyX a E C) (x1 : Int32) (x2 : Int32) : Met l yX6_isPack (oh_w yX6_isPack cX6_isPack 3 (some .boolean)) ({ frames := 2, cells := 0, slots := 0, locals := 43 }) (oh_Pp D E G [.ref (a 0), .int x1, .int x2] (oh_W 35 a C)) (vp_Si (fun r => (r = 0 ∨ r = 1) ∧ (r ≠ 0 → rg x1 0 4 ∧ (okPk (ga (C 10) ((2 : Int32)).toNatClampNeg) (ga (C 10) ((3 : Int32)).toNatClampNeg) x1 x2)) ∧ (r = 0 → (¬ okPk (ga (C 10) ((2 : Int32)).toNatClampNeg) (ga (C 10) ((3 : Int32)).toNatClampNeg) x1 x2)))) 0 0 (fun _ => False) := by
  refine Met.ofW (cc := cX6_isPack) (maxL := 3) (ret := (some .boolean)) (by decide) rfl ?_
  intro p e s m args below meth c s₁ B hml hv
  obtain ⟨rfl, hP, hK, hG⟩ := hv
  have hx := B.exec
  have hb := B.bytes
  have hr := B.returns
  have hts := atoms_spec (ws := (oh_w yX6_isPack cX6_isPack 3 (some .boolean))) B.pre
  have htg : ∀ w ∈ oh_t, w.before _ s = true := fun w h => hts w (List.mem_cons_of_mem _ h)
  have hown : s.vm.findClass RX6 = some m.cls := findClass_of_methodNamed B.named
  have hlocks := B.notSynchronized
  have hT0 := hT
  have hS : va_S (fun _ => False) s.heap s.heap [] := va_S.rf
  have hl := lv_entry ([.ref (a 0), .int x1, .int x2]) (n := 3) (Nat.le_of_ble_eq_true rfl)
  rw [lg_entry_eq]
  generalize (lg_sl ([.ref (a 0), .int x1, .int x2]) ++ List.replicate (3 - (lg_sl ([.ref (a 0), .int x1, .int x2])).length) Slot.unset).toArray = ls at hl ⊢
  have hl : lv_has ls 3 [(0, .ref (a 0)), (1, .int x1), (2, .int x2)] := hl
  refine oh_genQ (fun Q hQ => ?_)
  refine lv_aload_n hx hb dX6_isPack_0 rfl (lv_at hl 0 rfl) ?_
  refine lv_iload_n hx hb dX6_isPack_1 rfl (lv_at hl 1 rfl) ?_
  refine tq_V (As := [.int x1]) (rest := []) (ws := (oh_W 35 a C)) ⟨hx, hb, hml, hown, htg⟩ (e_X6_isWaggon l D E G a C hT x1) (cwV 1 htg (oh_gV q_679 q_681 q_15 q_66 q_682) rfl rfl rfl pdVX6_isWaggon ⟨Nat.le_of_ble_eq_true rfl, Nat.le_of_ble_eq_true rfl⟩) hK hP hG hS (va_recv hK hP (ci := 6) (q0 := 0) rfl (oh_wg (by decide) (sX_0 hT))) rfl hl.1 rfl (Nat.le_of_ble_eq_true rfl) dX6_isPack_2 ⟨Nat.le_of_ble_eq_true rfl, Nat.le_of_ble_eq_true rfl⟩ (fun r_1 hq_2 => ?_)
  refine lv_if_eq (tgt := 29) hx hb dX6_isPack_5 (by decide) (fun (c_3 : r_1 = 0) => ?_) (fun (c_3 : ¬ (r_1 = 0)) => ?_)
  · have u_4 := hq_2.2.2 c_3
    refine lv_iconst (v := 0) hx hb dX6_isPack_29 (by decide) ?_
    rw [hQ]
    exact W.zret (v := 0) (ty := .boolean) hx hb hr (by decide) (fun t ht hW => ⟨0, rfl, ⟨(Or.inl rfl), (fun h9 => absurd rfl h9), (fun _ => (fun h8 => u_4 h8.1))⟩, ht⟩) (fun q h => by cases h) dX6_isPack_30
  · have u_5 := hq_2.2.1 c_3
    refine lv_iload_n hx hb dX6_isPack_8 rfl (lv_at hl 2 rfl) ?_
    refine lv_iconst (v := 0) hx hb dX6_isPack_9 (by decide) ?_
    refine lv_aload_n hx hb dX6_isPack_10 rfl (lv_at hl 0 rfl) ?_
    refine va_get (D := D) (ci := 6) (v := .ref (a 1)) (C := RX6) (T := TX6) (N := 9) hx hb htg ig_6 hown hK hP 0 (oh_wg (by decide) (sX_0 hT)) rfl 0 (by decide) (htg _ q_258) (fun _ h9 => h9) rfl dX6_isPack_11 ?_
    refine tq_V (As := []) (rest := [.int 0, .int x2]) (ws := (oh_W 35 a C)) ⟨hx, hb, hml, hown, htg⟩ (e_X0_setsOfParts l D E G a C hT) (cwV 0 htg (oh_gV q_699 q_700 q_701 q_67 q_702) rfl rfl rfl pdVX0_setsOfParts ⟨Nat.le_of_ble_eq_true rfl, Nat.le_of_ble_eq_true rfl⟩) hK hP hG hS (va_recv hK hP (ci := 0) (q0 := 1) rfl (oh_wg (by decide) (sX_1 hT))) rfl hl.1 rfl (Nat.le_of_ble_eq_true rfl) dX6_isPack_14 ⟨Nat.le_of_ble_eq_true rfl, Nat.le_of_ble_eq_true rfl⟩ (fun r_6 hq_7 => ?_)
    subst hq_7
    refine lv_iconst (v := 1) hx hb dX6_isPack_17 (by decide) ?_
    refine lv_isub hx hb dX6_isPack_18 ?_
    refine tq_S (As := [.int x2, .int 0, .int (((1 : Int32) <<< ((ga (C 10) ((3 : Int32)).toNatClampNeg) &&& 31)) - 1)]) (rest := []) (ws := []) ⟨hx, hb, hml, hown, htg⟩ (c_X6_within l D E G x2 (0 : Int32) (((1 : Int32) <<< ((ga (C 10) ((3 : Int32)).toNatClampNeg) &&& 31)) - 1)) (va_cwS 3 htg (oh_gS q_293 q_294 q_66 q_295) rfl rfl rfl pdX6_within ⟨Nat.le_of_ble_eq_true rfl, Nat.le_of_ble_eq_true rfl⟩) hK va_nil hG hS rfl hl.1 rfl (Nat.le_of_ble_eq_true rfl) dX6_isPack_19 ⟨Nat.le_of_ble_eq_true rfl, Nat.le_of_ble_eq_true rfl⟩ (fun r_8 hq_9 => ?_)
    refine lv_if_eq (tgt := 29) hx hb dX6_isPack_22 (by decide) (fun (c_10 : r_8 = 0) => ?_) (fun (c_10 : ¬ (r_8 = 0)) => ?_)
    · have u_11 := hq_9.2.2 c_10
      refine lv_iconst (v := 0) hx hb dX6_isPack_29 (by decide) ?_
      rw [hQ]
      exact W.zret (v := 0) (ty := .boolean) hx hb hr (by decide) (fun t ht hW => ⟨0, rfl, ⟨(Or.inl rfl), (fun h9 => absurd rfl h9), (fun _ => (fun h8 => u_11 h8.2))⟩, ht⟩) (fun q h => by cases h) dX6_isPack_30
    · have u_12 := hq_9.2.1 c_10
      refine lv_iconst (v := 1) hx hb dX6_isPack_25 (by decide) ?_
      refine lv_goto (tgt := 30) hx hb dX6_isPack_26 (by decide) ?_
      rw [hQ]
      exact W.zret (v := 1) (ty := .boolean) hx hb hr (by decide) (fun t ht hW => ⟨1, rfl, ⟨(Or.inr rfl), (fun _ => ⟨(rg_w u_5.1 (by decide)), ⟨u_5.2, ⟨u_12.1, u_12.2⟩⟩⟩), (fun h9 => absurd h9 (by decide))⟩, ht⟩) (fun q h => by cases h) dX6_isPack_30

set_option maxHeartbeats 4000000 in
set_option maxRecDepth 100000 in
theorem e_X6_isJourney (l : Launch) (D : va_G) (E : Nat → ClassId) (G : Nat → Nat) (a : Nat → Nat) (C : Nat → va_E) (hT : TyX a E C) (x1 : Int32) (x2 : Int32) (x3 : Int32) (x4 : Int32) : Met l yX6_isJourney (oh_w yX6_isJourney cX6_isJourney 5 (some .boolean)) ({ frames := 3, cells := 0, slots := 0, locals := 65 }) (oh_Pp D E G [.ref (a 0), .int x1, .int x2, .int x3, .int x4] (oh_W 35 a C)) (vp_Si (fun r => (r = 0 ∨ r = 1) ∧ (r ≠ 0 → rg x1 0 4 ∧ rg x3 0 15 ∧ rg x4 0 15 ∧ (okPk (ga (C 10) ((2 : Int32)).toNatClampNeg) (ga (C 10) ((3 : Int32)).toNatClampNeg) x1 x2 ∧ ((0 : Int32) ≤ x3 ∧ x3 ≤ 15) ∧ ((0 : Int32) ≤ x4 ∧ x4 ≤ 15))) ∧ (r = 0 → (¬ (okPk (ga (C 10) ((2 : Int32)).toNatClampNeg) (ga (C 10) ((3 : Int32)).toNatClampNeg) x1 x2 ∧ ((0 : Int32) ≤ x3 ∧ x3 ≤ 15) ∧ ((0 : Int32) ≤ x4 ∧ x4 ≤ 15)))))) 0 0 (fun _ => False) := by
  refine Met.ofW (cc := cX6_isJourney) (maxL := 5) (ret := (some .boolean)) (by decide) rfl ?_
  intro p e s m args below meth c s₁ B hml hv
  obtain ⟨rfl, hP, hK, hG⟩ := hv
  have hx := B.exec
  have hb := B.bytes
  have hr := B.returns
  have hts := atoms_spec (ws := (oh_w yX6_isJourney cX6_isJourney 5 (some .boolean))) B.pre
  have htg : ∀ w ∈ oh_t, w.before _ s = true := fun w h => hts w (List.mem_cons_of_mem _ h)
  have hown : s.vm.findClass RX6 = some m.cls := findClass_of_methodNamed B.named
  have hlocks := B.notSynchronized
  have hT0 := hT
  have hS : va_S (fun _ => False) s.heap s.heap [] := va_S.rf
  have hl := lv_entry ([.ref (a 0), .int x1, .int x2, .int x3, .int x4]) (n := 5) (Nat.le_of_ble_eq_true rfl)
  rw [lg_entry_eq]
  generalize (lg_sl ([.ref (a 0), .int x1, .int x2, .int x3, .int x4]) ++ List.replicate (5 - (lg_sl ([.ref (a 0), .int x1, .int x2, .int x3, .int x4])).length) Slot.unset).toArray = ls at hl ⊢
  have hl : lv_has ls 5 [(0, .ref (a 0)), (1, .int x1), (2, .int x2), (3, .int x3), (4, .int x4)] := hl
  refine oh_genQ (fun Q hQ => ?_)
  refine lv_aload_n hx hb dX6_isJourney_0 rfl (lv_at hl 0 rfl) ?_
  refine lv_iload_n hx hb dX6_isJourney_1 rfl (lv_at hl 1 rfl) ?_
  refine lv_iload_n hx hb dX6_isJourney_2 rfl (lv_at hl 2 rfl) ?_
  refine tq_V (As := [.int x1, .int x2]) (rest := []) (ws := (oh_W 35 a C)) ⟨hx, hb, hml, hown, htg⟩ (e_X6_isPack l D E G a C hT x1 x2) (cwV 2 htg (oh_gV q_695 q_697 q_16 q_66 q_698) rfl rfl rfl pdVX6_isPack ⟨Nat.le_of_ble_eq_true rfl, Nat.le_of_ble_eq_true rfl⟩) hK hP hG hS (va_recv hK hP (ci := 6) (q0 := 0) rfl (oh_wg (by decide) (sX_0 hT))) rfl hl.1 rfl (Nat.le_of_ble_eq_true rfl) dX6_isJourney_3 ⟨Nat.le_of_ble_eq_true rfl, Nat.le_of_ble_eq_true rfl⟩ (fun r_1 hq_2 => ?_)
  refine lv_if_eq (tgt := 28) hx hb dX6_isJourney_6 (by decide) (fun (c_3 : r_1 = 0) => ?_) (fun (c_3 : ¬ (r_1 = 0)) => ?_)
  · have u_4 := hq_2.2.2 c_3
    refine lv_iconst (v := 0) hx hb dX6_isJourney_28 (by decide) ?_
    rw [hQ]
    exact W.zret (v := 0) (ty := .boolean) hx hb hr (by decide) (fun t ht hW => ⟨0, rfl, ⟨(Or.inl rfl), (fun h9 => absurd rfl h9), (fun _ => (fun h8 => u_4 h8.1))⟩, ht⟩) (fun q h => by cases h) dX6_isJourney_29
  · have u_5 := hq_2.2.1 c_3
    refine lv_iload_n hx hb dX6_isJourney_9 rfl (lv_at hl 3 rfl) ?_
    refine tq_S (As := [.int x3]) (rest := []) (ws := []) ⟨hx, hb, hml, hown, htg⟩ (e_X6_isPlace l D E G x3) (va_cwS 1 htg (oh_gS q_413 q_414 q_66 q_415) rfl rfl rfl pdX6_isPlace ⟨Nat.le_of_ble_eq_true rfl, Nat.le_of_ble_eq_true rfl⟩) hK va_nil hG hS rfl hl.1 rfl (Nat.le_of_ble_eq_true rfl) dX6_isJourney_10 ⟨Nat.le_of_ble_eq_true rfl, Nat.le_of_ble_eq_true rfl⟩ (fun r_6 hq_7 => ?_)
    refine lv_if_eq (tgt := 28) hx hb dX6_isJourney_13 (by decide) (fun (c_8 : r_6 = 0) => ?_) (fun (c_8 : ¬ (r_6 = 0)) => ?_)
    · have u_9 := hq_7.2.2 c_8
      refine lv_iconst (v := 0) hx hb dX6_isJourney_28 (by decide) ?_
      rw [hQ]
      exact W.zret (v := 0) (ty := .boolean) hx hb hr (by decide) (fun t ht hW => ⟨0, rfl, ⟨(Or.inl rfl), (fun h9 => absurd rfl h9), (fun _ => (fun h8 => u_9 h8.2.1))⟩, ht⟩) (fun q h => by cases h) dX6_isJourney_29
    · have u_10 := hq_7.2.1 c_8
      refine lv_iload hx hb dX6_isJourney_16 (lv_at hl 4 rfl) ?_
      refine tq_S (As := [.int x4]) (rest := []) (ws := []) ⟨hx, hb, hml, hown, htg⟩ (e_X6_isPlace l D E G x4) (va_cwS 1 htg (oh_gS q_413 q_414 q_66 q_415) rfl rfl rfl pdX6_isPlace ⟨Nat.le_of_ble_eq_true rfl, Nat.le_of_ble_eq_true rfl⟩) hK va_nil hG hS rfl hl.1 rfl (Nat.le_of_ble_eq_true rfl) dX6_isJourney_18 ⟨Nat.le_of_ble_eq_true rfl, Nat.le_of_ble_eq_true rfl⟩ (fun r_11 hq_12 => ?_)
      refine lv_if_eq (tgt := 28) hx hb dX6_isJourney_21 (by decide) (fun (c_13 : r_11 = 0) => ?_) (fun (c_13 : ¬ (r_11 = 0)) => ?_)
      · have u_14 := hq_12.2.2 c_13
        refine lv_iconst (v := 0) hx hb dX6_isJourney_28 (by decide) ?_
        rw [hQ]
        exact W.zret (v := 0) (ty := .boolean) hx hb hr (by decide) (fun t ht hW => ⟨0, rfl, ⟨(Or.inl rfl), (fun h9 => absurd rfl h9), (fun _ => (fun h8 => u_14 h8.2.2))⟩, ht⟩) (fun q h => by cases h) dX6_isJourney_29
      · have u_15 := hq_12.2.1 c_13
        refine lv_iconst (v := 1) hx hb dX6_isJourney_24 (by decide) ?_
        refine lv_goto (tgt := 29) hx hb dX6_isJourney_25 (by decide) ?_
        rw [hQ]
        exact W.zret (v := 1) (ty := .boolean) hx hb hr (by decide) (fun t ht hW => ⟨1, rfl, ⟨(Or.inr rfl), (fun _ => ⟨(rg_w u_5.1 (by decide)), (rg_w u_10 (by decide)), (rg_w u_15 (by decide)), ⟨u_5.2, (oh_rgI (p := 0) (q := 15) (rg_w (lo := 0) (hi := 15) u_10 (by decide))), (oh_rgI (p := 0) (q := 15) (rg_w (lo := 0) (hi := 15) u_15 (by decide)))⟩⟩), (fun h9 => absurd h9 (by decide))⟩, ht⟩) (fun q h => by cases h) dX6_isJourney_29

set_option maxHeartbeats 4000000 in
set_option maxRecDepth 100000 in
theorem e_X7_isWaggon (l : Launch) (D : va_G) (E : Nat → ClassId) (G : Nat → Nat) (a : Nat → Nat) (C : Nat → va_E) (n : Nat) (hn : 74 ≤ n) (hT : TyM a E C) (x1 : Int32) (hR : RelW C) : Met l yX7_isWaggon (oh_w yX7_isWaggon cX7_isWaggon 2 (some .boolean)) ({ frames := 1, cells := 0, slots := 0, locals := 25 }) (oh_Pp D E G [.ref (a 0), .int x1] (oh_W n a C)) (vp_Si (fun r => (r = 0 ∨ r = 1) ∧ (r ≠ 0 → rg x1 0 4 ∧ (oh_pos C x1) ∧ (x1.toInt < (gi (C 0) 13).toInt) ∧ ((0 : Int32) ≤ x1 ∧ x1 < gi (C 0) 13)) ∧ (r = 0 → (¬ ((0 : Int32) ≤ x1 ∧ x1 < gi (C 0) 13))))) 0 0 (fun _ => False) := by
  refine Met.ofW (cc := cX7_isWaggon) (maxL := 2) (ret := (some .boolean)) (by decide) rfl ?_
  intro p e s m args below meth c s₁ B hml hv
  obtain ⟨rfl, hP, hK, hG⟩ := hv
  have hx := B.exec
  have hb := B.bytes
  have hr := B.returns
  have hts := atoms_spec (ws := (oh_w yX7_isWaggon cX7_isWaggon 2 (some .boolean))) B.pre
  have htg : ∀ w ∈ oh_t, w.before _ s = true := fun w h => hts w (List.mem_cons_of_mem _ h)
  have hown : s.vm.findClass RX7 = some m.cls := findClass_of_methodNamed B.named
  have hlocks := B.notSynchronized
  have hT0 := hT
  have hS : va_S (fun _ => False) s.heap s.heap [] := va_S.rf
  have hl := lv_entry ([.ref (a 0), .int x1]) (n := 2) (Nat.le_of_ble_eq_true rfl)
  rw [lg_entry_eq]
  generalize (lg_sl ([.ref (a 0), .int x1]) ++ List.replicate (2 - (lg_sl ([.ref (a 0), .int x1])).length) Slot.unset).toArray = ls at hl ⊢
  have hl : lv_has ls 2 [(0, .ref (a 0)), (1, .int x1)] := hl
  refine oh_genQ (fun Q hQ => ?_)
  refine lv_iload_n hx hb dX7_isWaggon_0 rfl (lv_at hl 1 rfl) ?_
  refine lv_i2l (v := Int32.toInt64 x1) hx hb dX7_isWaggon_1 (by rfl) ?_
  refine lv_lconst (v := 0) hx hb dX7_isWaggon_2 (by decide) ?_
  refine lv_aload_n hx hb dX7_isWaggon_3 rfl (lv_at hl 0 rfl) ?_
  refine va_get (D := D) (ci := 7) (v := .int (gi (C 0) 13)) (C := RX7) (T := TX7) (N := 29) hx hb htg ig_7 hown hK hP 0 (oh_wg (Nat.lt_of_lt_of_le (by decide) hn) (sM_0 hT)) rfl 13 (by decide) (htg _ q_986) (fun _ h9 => h9) rfl dX7_isWaggon_4 ?_
  refine lv_iconst (v := 1) hx hb dX7_isWaggon_7 (by decide) ?_
  refine lv_isub hx hb dX7_isWaggon_8 ?_
  refine lv_i2l (v := Int32.toInt64 ((gi (C 0) 13) - 1)) hx hb dX7_isWaggon_9 (by rfl) ?_
  refine tq_S (As := [.long (Int32.toInt64 x1), .long 0, .long (Int32.toInt64 ((gi (C 0) 13) - 1))]) (rest := []) (ws := []) ⟨hx, hb, hml, hown, htg⟩ (c_X7_in l D E G (Int32.toInt64 x1) (0 : Int64) (Int32.toInt64 ((gi (C 0) 13) - 1))) (va_cwS 3 htg (oh_gS q_1066 q_1067 q_73 q_1068) rfl rfl rfl pdX7_in ⟨Nat.le_of_ble_eq_true rfl, Nat.le_of_ble_eq_true rfl⟩) hK va_nil hG hS rfl hl.1 rfl (Nat.le_of_ble_eq_true rfl) dX7_isWaggon_10 ⟨Nat.le_of_ble_eq_true rfl, Nat.le_of_ble_eq_true rfl⟩ (fun r_1 hq_2 => ?_)
  rw [hQ]
  exact W.zret (v := r_1) (ty := .boolean) hx hb hr (oh_nb hq_2.1) (fun t ht hW => ⟨r_1, rfl, ⟨hq_2.1, (fun h9 => ⟨(rg_w (rg_il (rnL_leu (hq_2.2.1 h9).2 (rgL_i (rg_il (rnL_lel (hq_2.2.1 h9).1 (rgL_c (v := 0) (lo := 0) (hi := 0) (by decide)) (rgL_i (rg_any _))))) (rgL_i (rg_sub (lo := (-1)) (hi := 4) (fM_0_13 hT0) (rg_c (v := 1) (lo := 1) (hi := 1) (by decide)) (by decide))))) (by decide)), (oh_posof hR (rg_w (rg_il (rnL_leu (hq_2.2.1 h9).2 (rgL_i (rg_il (rnL_lel (hq_2.2.1 h9).1 (rgL_c (v := 0) (lo := 0) (hi := 0) (by decide)) (rgL_i (rg_any _))))) (rgL_i (rg_sub (lo := (-1)) (hi := 4) (fM_0_13 hT0) (rg_c (v := 1) (lo := 1) (hi := 1) (by decide)) (by decide))))) (by decide)) (fM_0_13 hT) (hq_2.2.1 h9).2), (oh_posl (fM_0_13 hT) (hq_2.2.1 h9).2), ((is_n64 (rg_w (lo := 0) (hi := 24) (fM_0_13 hT0) (by decide))).mp ⟨(hq_2.2.1 h9).1, (hq_2.2.1 h9).2⟩)⟩), (fun h9 => (fun h8 => (hq_2.2.2 h9) ((is_n64 (rg_w (lo := 0) (hi := 24) (fM_0_13 hT0) (by decide))).mpr h8)))⟩, ht⟩) (fun q h => by cases h) dX7_isWaggon_13

theorem pk64 {s m : Int32} : ((0 : Int64) ≤ Int32.toInt64 s ∧ Int32.toInt64 s ≤ Int32.toInt64 m) ↔ (0 ≤ s ∧ s ≤ m) := oh_in64' (x := s) (lo := 0) (hi := m)

set_option maxHeartbeats 4000000 in
set_option maxRecDepth 100000 in
theorem e_X7_isPack (l : Launch) (D : va_G) (E : Nat → ClassId) (G : Nat → Nat) (a : Nat → Nat) (C : Nat → va_E) (n : Nat) (hn : 74 ≤ n) (hT : TyM a E C) (x1 : Int32) (x2 : Int32) (hR : RelW C) : Met l yX7_isPack (oh_w yX7_isPack cX7_isPack 3 (some .boolean)) ({ frames := 2, cells := 0, slots := 0, locals := 46 }) (oh_Pp D E G [.ref (a 0), .int x1, .int x2] (oh_W n a C)) (vp_Si (fun r => (r = 0 ∨ r = 1) ∧ (r ≠ 0 → rg x1 0 4 ∧ (oh_pos C x1) ∧ (x1.toInt < (gi (C 0) 13).toInt) ∧ (okPk (gi (C 0) 13) (gi (C 0) 15) x1 x2)) ∧ (r = 0 → (¬ okPk (gi (C 0) 13) (gi (C 0) 15) x1 x2)))) 0 0 (fun _ => False) := by
  refine Met.ofW (cc := cX7_isPack) (maxL := 3) (ret := (some .boolean)) (by decide) rfl ?_
  intro p e s m args below meth c s₁ B hml hv
  obtain ⟨rfl, hP, hK, hG⟩ := hv
  have hx := B.exec
  have hb := B.bytes
  have hr := B.returns
  have hts := atoms_spec (ws := (oh_w yX7_isPack cX7_isPack 3 (some .boolean))) B.pre
  have htg : ∀ w ∈ oh_t, w.before _ s = true := fun w h => hts w (List.mem_cons_of_mem _ h)
  have hown : s.vm.findClass RX7 = some m.cls := findClass_of_methodNamed B.named
  have hlocks := B.notSynchronized
  have hT0 := hT
  have hS : va_S (fun _ => False) s.heap s.heap [] := va_S.rf
  have hl := lv_entry ([.ref (a 0), .int x1, .int x2]) (n := 3) (Nat.le_of_ble_eq_true rfl)
  rw [lg_entry_eq]
  generalize (lg_sl ([.ref (a 0), .int x1, .int x2]) ++ List.replicate (3 - (lg_sl ([.ref (a 0), .int x1, .int x2])).length) Slot.unset).toArray = ls at hl ⊢
  have hl : lv_has ls 3 [(0, .ref (a 0)), (1, .int x1), (2, .int x2)] := hl
  refine oh_genQ (fun Q hQ => ?_)
  refine lv_aload_n hx hb dX7_isPack_0 rfl (lv_at hl 0 rfl) ?_
  refine lv_iload_n hx hb dX7_isPack_1 rfl (lv_at hl 1 rfl) ?_
  refine tq_V (As := [.int x1]) (rest := []) (ws := (oh_W n a C)) ⟨hx, hb, hml, hown, htg⟩ (e_X7_isWaggon l D E G a C n hn hT x1 hR) (cwV 1 htg (oh_gV q_1278 q_1280 q_48 q_73 q_1281) rfl rfl rfl pdVX7_isWaggon ⟨Nat.le_of_ble_eq_true rfl, Nat.le_of_ble_eq_true rfl⟩) hK hP hG hS (va_recv hK hP (ci := 7) (q0 := 0) rfl (oh_wg (Nat.lt_of_lt_of_le (by decide) hn) (sM_0 hT))) rfl hl.1 rfl (Nat.le_of_ble_eq_true rfl) dX7_isPack_2 ⟨Nat.le_of_ble_eq_true rfl, Nat.le_of_ble_eq_true rfl⟩ (fun r_1 hq_2 => ?_)
  refine lv_if_eq (tgt := 30) hx hb dX7_isPack_5 (by decide) (fun (c_3 : r_1 = 0) => ?_) (fun (c_3 : ¬ (r_1 = 0)) => ?_)
  · have u_4 := hq_2.2.2 c_3
    refine lv_iconst (v := 0) hx hb dX7_isPack_30 (by decide) ?_
    rw [hQ]
    exact W.zret (v := 0) (ty := .boolean) hx hb hr (by decide) (fun t ht hW => ⟨0, rfl, ⟨(Or.inl rfl), (fun h9 => absurd rfl h9), (fun _ => (fun h8 => u_4 h8.1))⟩, ht⟩) (fun q h => by cases h) dX7_isPack_31
  · have u_5 := hq_2.2.1 c_3
    refine lv_iload_n hx hb dX7_isPack_8 rfl (lv_at hl 2 rfl) ?_
    refine lv_i2l (v := Int32.toInt64 x2) hx hb dX7_isPack_9 (by rfl) ?_
    refine lv_lconst (v := 0) hx hb dX7_isPack_10 (by decide) ?_
    refine lv_iconst (v := 1) hx hb dX7_isPack_11 (by decide) ?_
    refine lv_aload_n hx hb dX7_isPack_12 rfl (lv_at hl 0 rfl) ?_
    refine va_get (D := D) (ci := 7) (v := .int (gi (C 0) 15)) (C := RX7) (T := TX7) (N := 29) hx hb htg ig_7 hown hK hP 0 (oh_wg (Nat.lt_of_lt_of_le (by decide) hn) (sM_0 hT)) rfl 15 (by decide) (htg _ q_988) (fun _ h9 => h9) rfl dX7_isPack_13 ?_
    refine lv_ishl hx hb dX7_isPack_16 ?_
    refine lv_iconst (v := 1) hx hb dX7_isPack_17 (by decide) ?_
    refine lv_isub hx hb dX7_isPack_18 ?_
    refine lv_i2l (v := Int32.toInt64 (((1 : Int32) <<< ((gi (C 0) 15) &&& 31)) - 1)) hx hb dX7_isPack_19 (by rfl) ?_
    refine tq_S (As := [.long (Int32.toInt64 x2), .long 0, .long (Int32.toInt64 (((1 : Int32) <<< ((gi (C 0) 15) &&& 31)) - 1))]) (rest := []) (ws := []) ⟨hx, hb, hml, hown, htg⟩ (c_X7_in l D E G (Int32.toInt64 x2) (0 : Int64) (Int32.toInt64 (((1 : Int32) <<< ((gi (C 0) 15) &&& 31)) - 1))) (va_cwS 3 htg (oh_gS q_1066 q_1067 q_73 q_1068) rfl rfl rfl pdX7_in ⟨Nat.le_of_ble_eq_true rfl, Nat.le_of_ble_eq_true rfl⟩) hK va_nil hG hS rfl hl.1 rfl (Nat.le_of_ble_eq_true rfl) dX7_isPack_20 ⟨Nat.le_of_ble_eq_true rfl, Nat.le_of_ble_eq_true rfl⟩ (fun r_6 hq_7 => ?_)
    refine lv_if_eq (tgt := 30) hx hb dX7_isPack_23 (by decide) (fun (c_8 : r_6 = 0) => ?_) (fun (c_8 : ¬ (r_6 = 0)) => ?_)
    · have u_9 := hq_7.2.2 c_8
      refine lv_iconst (v := 0) hx hb dX7_isPack_30 (by decide) ?_
      rw [hQ]
      exact W.zret (v := 0) (ty := .boolean) hx hb hr (by decide) (fun t ht hW => ⟨0, rfl, ⟨(Or.inl rfl), (fun h9 => absurd rfl h9), (fun _ => (fun h8 => u_9 (pk64.mpr h8.2)))⟩, ht⟩) (fun q h => by cases h) dX7_isPack_31
    · have u_10 := hq_7.2.1 c_8
      refine lv_iconst (v := 1) hx hb dX7_isPack_26 (by decide) ?_
      refine lv_goto (tgt := 31) hx hb dX7_isPack_27 (by decide) ?_
      rw [hQ]
      exact W.zret (v := 1) (ty := .boolean) hx hb hr (by decide) (fun t ht hW => ⟨1, rfl, ⟨(Or.inr rfl), (fun _ => ⟨(rg_w u_5.1 (by decide)), u_5.2.1, u_5.2.2.1, ⟨u_5.2.2.2, pk64.mp ⟨u_10.1, u_10.2⟩⟩⟩), (fun h9 => absurd h9 (by decide))⟩, ht⟩) (fun q h => by cases h) dX7_isPack_31

set_option maxHeartbeats 4000000 in
set_option maxRecDepth 100000 in
theorem e_X7_roadOf (l : Launch) (D : va_G) (E : Nat → ClassId) (G : Nat → Nat) (sz : Nat) (a : Nat → Nat) (C : Nat → va_E) (n : Nat) (hn : 74 ≤ n) (hT : TyM a E C) (x1 : Int32) (x2 : Int32) (hR : RelM C) : Met l yX7_roadOf (oh_w yX7_roadOf cX7_roadOf 3 (some .int)) ({ frames := 2, cells := 0, slots := 0, locals := 46 }) (oh_Pm D E G [.ref (a 0), .int x1, .int x2] (oh_W n a C) sz) (va_Qi (fun r (u : Nat → va_E) => TyM a E u ∧ fr [(8, 9)] [] C u ∧ (RelM u) ∧ (∀ A : LA, absM C A → r = spRoadOf A x1 x2)) (oh_B D (va_A (oh_W n a C) sz) (fun u => oh_W n a u)) (va_A (oh_W n a C) sz)) 0 0 (va_A (oh_W n a C) sz) := by
  refine Met.ofW (cc := cX7_roadOf) (maxL := 3) (ret := (some .int)) (by decide) rfl ?_
  intro p e s m args below meth c s₁ B hml hv
  obtain ⟨rfl, hsz, hP, hK, hD0, hG⟩ := hv
  have hx := B.exec
  have hb := B.bytes
  have hr := B.returns
  have hts := atoms_spec (ws := (oh_w yX7_roadOf cX7_roadOf 3 (some .int))) B.pre
  have htg : ∀ w ∈ oh_t, w.before _ s = true := fun w h => hts w (List.mem_cons_of_mem _ h)
  have hown : s.vm.findClass RX7 = some m.cls := findClass_of_methodNamed B.named
  have hlocks := B.notSynchronized
  have hT0 := hT
  subst hsz
  have hD := hD0.self (sz := s.heap.size)
  generalize hAe : va_A (oh_W n a C) s.heap.size = A at hD hG ⊢
  have hA : ∀ q : Nat, s.heap.size ≤ q → A q := fun q h => by rw [← hAe]; exact Or.inr h
  have hS : va_S A s.heap s.heap [] := va_S.rf
  have hF : fr [(8, 9)] [] C C := fr_rf
  have hl := lv_entry ([.ref (a 0), .int x1, .int x2]) (n := 3) (Nat.le_of_ble_eq_true rfl)
  rw [lg_entry_eq]
  generalize (lg_sl ([.ref (a 0), .int x1, .int x2]) ++ List.replicate (3 - (lg_sl ([.ref (a 0), .int x1, .int x2])).length) Slot.unset).toArray = ls at hl ⊢
  have hl : lv_has ls 3 [(0, .ref (a 0)), (1, .int x1), (2, .int x2)] := hl
  refine oh_genQ (fun Q hQ => ?_)
  refine lv_aload_n hx hb dX7_roadOf_0 rfl (lv_at hl 0 rfl) ?_
  refine lv_iload_n hx hb dX7_roadOf_1 rfl (lv_at hl 1 rfl) ?_
  refine tq_V (As := [.int x1]) (rest := []) (ws := (oh_W n a C)) ⟨hx, hb, hml, hown, htg⟩ (e_X7_isRoad l D E G a C n hn hT x1) (cwV 1 htg (oh_gV q_1145 q_1147 q_36 q_73 q_1148) rfl rfl rfl pdVX7_isRoad ⟨Nat.le_of_ble_eq_true rfl, Nat.le_of_ble_eq_true rfl⟩) hK hP hG hS (va_recv hK hP (ci := 7) (q0 := 0) rfl (oh_wg (Nat.lt_of_lt_of_le (by decide) hn) (sM_0 hT))) rfl hl.1 rfl (Nat.le_of_ble_eq_true rfl) dX7_roadOf_2 ⟨Nat.le_of_ble_eq_true rfl, Nat.le_of_ble_eq_true rfl⟩ (fun r_1 hq_2 => ?_)
  refine lv_if_eq (tgt := 31) hx hb dX7_roadOf_5 (by decide) (fun (c_3 : r_1 = 0) => ?_) (fun (c_3 : ¬ (r_1 = 0)) => ?_)
  · have u_4 := hq_2.2.2 c_3
    refine lv_aload_n hx hb dX7_roadOf_31 rfl (lv_at hl 0 rfl) ?_
    refine lv_bipush (v := (-2)) hx hb dX7_roadOf_32 (by decide) ?_
    refine tm_V (As := [.int (-2)]) (rest := []) ⟨hx, hb, hml, hown, htg⟩ (c_X7_refuse l D E G _ a C n hn hT ((-2) : Int32) (rg_w (rg_c (v := (-2)) (lo := (-2)) (hi := (-2)) (by decide)) (by decide))) (cwV 1 htg (oh_gV q_1071 q_1073 q_29 q_73 q_1074) rfl rfl rfl pdVX7_refuse ⟨Nat.le_of_ble_eq_true rfl, Nat.le_of_ble_eq_true rfl⟩) hK hP hD hG hS hA (va_recv hK hP (ci := 7) (q0 := 0) rfl (oh_wg (Nat.lt_of_lt_of_le (by decide) hn) (sM_0 hT))) rfl hl.1 rfl (Nat.le_of_ble_eq_true rfl) dX7_roadOf_34 ⟨Nat.le_of_ble_eq_true rfl, Nat.le_of_ble_eq_true rfl⟩ (fun r_5 C_6 H locs hq_7 hP hD hS => ?_)
    obtain ⟨hT, f_8, hq_7⟩ := hq_7
    have hF := fr_tr hF f_8 (by decide) (by decide)
    refine W.widen (k := 0) (n := 0) (Nat.le_refl _) (Nat.le_refl _) ?_
    have t_9 := hT
    rw [hQ]
    exact W.iret (v := r_5) hx hb hr (fun t ht hW => ⟨⟨r_5, C_6, rfl, ⟨hT, hF, ⟨⟨hR.1.fr hF (by decide), hR.2.fr hF (by decide)⟩, (fun A hA => Eq.trans hq_7 (pif_neg (fun h8 => by have h7 := h8.1; rw [← (show gi (C 0) 9 = A 5 0 0 from hA.1 0 (by decide))] at h7; exact u_4 h7)).symm)⟩⟩, ⟨by rw [ht]; exact hP, hD⟩⟩, hS.F ht⟩) hS.2.2 dX7_roadOf_37
  · have u_10 := hq_2.2.1 c_3
    refine lv_iload_n hx hb dX7_roadOf_8 rfl (lv_at hl 2 rfl) ?_
    refine lv_i2l (v := Int32.toInt64 x2) hx hb dX7_roadOf_9 (by rfl) ?_
    refine lv_lconst (v := 0) hx hb dX7_roadOf_10 (by decide) ?_
    refine lv_ldc2 (v := 6) hx hb hown (htg _ q_1265) dX7_roadOf_11 ?_
    refine tq_S (As := [.long (Int32.toInt64 x2), .long 0, .long 6]) (rest := []) (ws := []) ⟨hx, hb, hml, hown, htg⟩ (c_X7_in l D E G (Int32.toInt64 x2) (0 : Int64) (6 : Int64)) (va_cwS 3 htg (oh_gS q_1066 q_1067 q_73 q_1068) rfl rfl rfl pdX7_in ⟨Nat.le_of_ble_eq_true rfl, Nat.le_of_ble_eq_true rfl⟩) hK va_nil hG hS rfl hl.1 rfl (Nat.le_of_ble_eq_true rfl) dX7_roadOf_14 ⟨Nat.le_of_ble_eq_true rfl, Nat.le_of_ble_eq_true rfl⟩ (fun r_11 hq_12 => ?_)
    refine lv_if_eq (tgt := 31) hx hb dX7_roadOf_17 (by decide) (fun (c_13 : r_11 = 0) => ?_) (fun (c_13 : ¬ (r_11 = 0)) => ?_)
    · have u_14 := hq_12.2.2 c_13
      refine lv_aload_n hx hb dX7_roadOf_31 rfl (lv_at hl 0 rfl) ?_
      refine lv_bipush (v := (-2)) hx hb dX7_roadOf_32 (by decide) ?_
      refine tm_V (As := [.int (-2)]) (rest := []) ⟨hx, hb, hml, hown, htg⟩ (c_X7_refuse l D E G _ a C n hn hT ((-2) : Int32) (rg_w (rg_c (v := (-2)) (lo := (-2)) (hi := (-2)) (by decide)) (by decide))) (cwV 1 htg (oh_gV q_1071 q_1073 q_29 q_73 q_1074) rfl rfl rfl pdVX7_refuse ⟨Nat.le_of_ble_eq_true rfl, Nat.le_of_ble_eq_true rfl⟩) hK hP hD hG hS hA (va_recv hK hP (ci := 7) (q0 := 0) rfl (oh_wg (Nat.lt_of_lt_of_le (by decide) hn) (sM_0 hT))) rfl hl.1 rfl (Nat.le_of_ble_eq_true rfl) dX7_roadOf_34 ⟨Nat.le_of_ble_eq_true rfl, Nat.le_of_ble_eq_true rfl⟩ (fun r_15 C_16 H locs hq_17 hP hD hS => ?_)
      obtain ⟨hT, f_18, hq_17⟩ := hq_17
      have hF := fr_tr hF f_18 (by decide) (by decide)
      refine W.widen (k := 0) (n := 0) (Nat.le_refl _) (Nat.le_refl _) ?_
      have t_19 := hT
      rw [hQ]
      exact W.iret (v := r_15) hx hb hr (fun t ht hW => ⟨⟨r_15, C_16, rfl, ⟨hT, hF, ⟨⟨hR.1.fr hF (by decide), hR.2.fr hF (by decide)⟩, (fun A hA => Eq.trans hq_17 (pif_neg (fun h8 => (oh_in64 (l' := 0) (k' := 6) rfl rfl u_14) h8.2)).symm)⟩⟩, ⟨by rw [ht]; exact hP, hD⟩⟩, hS.F ht⟩) hS.2.2 dX7_roadOf_37
    · have u_20 := hq_12.2.1 c_13
      refine lv_aload_n hx hb dX7_roadOf_20 rfl (lv_at hl 0 rfl) ?_
      refine va_get (D := D) (ci := 7) (v := .ref (a 9)) (C := RX7) (T := TX7) (N := 29) hx hb htg ig_7 hown hK hP 0 (oh_wg (Nat.lt_of_lt_of_le (by decide) hn) (sM_0 hT)) rfl 10 (by decide) (htg _ q_983) (fun _ h9 => h9) rfl dX7_roadOf_21 ?_
      refine lv_iload_n hx hb dX7_roadOf_24 rfl (lv_at hl 1 rfl) ?_
      have n_21 : vp_in x1 24 := (rg_in u_10.1 (by decide))
      have b_22 : (x1).toNatClampNeg < 24 := vp_lt n_21
      refine th_aald hx hb hK hP 9 2 (Nat.lt_of_lt_of_le (by decide) hn) (sM_9 hT) rfl n_21 dX7_roadOf_25 ?_
      refine lv_iload_n hx hb dX7_roadOf_26 rfl (lv_at hl 2 rfl) ?_
      have n_23 : vp_in x2 7 := (rg_in (rg_il (rgL_i (rg_il (rnL_leu u_20.2 (rnL_lel u_20.1 (rgL_c (v := 0) (lo := 0) (hi := 0) (by decide)) (rgL_i (rg_any _))) (rgL_c (v := 6) (lo := 6) (hi := 6) (by decide)))))) (by decide))
      refine th_iald hx hb hK hP (24 + (x1).toNatClampNeg) (lt_blk b_22 hn (by decide)) (hT.broad b_22).1 n_23 dX7_roadOf_27 ?_
      refine lv_goto (tgt := 37) hx hb dX7_roadOf_28 (by decide) ?_
      rw [hQ]
      exact W.iret (v := ga (C (24 + (x1).toNatClampNeg)) (x2).toNatClampNeg) hx hb hr (fun t ht hW => ⟨⟨ga (C (24 + (x1).toNatClampNeg)) (x2).toNatClampNeg, C, rfl, ⟨hT, hF, ⟨hR, (fun A hA => Eq.trans (colM_v (t := 0) hA (by decide) (rg_w (lo := 0) (hi := 23) u_10.1 (by decide)) (show x2.toNatClampNeg < 7 from vp_lt (rg_in (rg_w (lo := 0) (hi := 6) (rg_il (rgL_i (rg_il (rnL_leu u_20.2 (rnL_lel u_20.1 (rgL_c (v := 0) (lo := 0) (hi := 0) (by decide)) (rgL_i (rg_any _))) (rgL_c (v := 6) (lo := 6) (hi := 6) (by decide)))))) (by decide)) (by decide))) (show 0 ≤ x1 ∧ x1 < A 5 0 0 by rw [← (show gi (C 0) 9 = A 5 0 0 from hA.1 0 (by decide))]; exact u_10.2).2 (by unfold vis; omega)) (pif_pos ⟨(show 0 ≤ x1 ∧ x1 < A 5 0 0 by rw [← (show gi (C 0) 9 = A 5 0 0 from hA.1 0 (by decide))]; exact u_10.2), (oh_rgI (p := 0) (q := 6) (rg_w (lo := 0) (hi := 6) (rg_il (rgL_i (rg_il (rnL_leu u_20.2 (rnL_lel u_20.1 (rgL_c (v := 0) (lo := 0) (hi := 0) (by decide)) (rgL_i (rg_any _))) (rgL_c (v := 6) (lo := 6) (hi := 6) (by decide)))))) (by decide)))⟩).symm)⟩⟩, ⟨by rw [ht]; exact hP, hD⟩⟩, hS.F ht⟩) hS.2.2 dX7_roadOf_37

set_option maxHeartbeats 4000000 in
set_option maxRecDepth 100000 in
theorem e_X7_lengthOf (l : Launch) (D : va_G) (E : Nat → ClassId) (G : Nat → Nat) (a : Nat → Nat) (C : Nat → va_E) (n : Nat) (hn : 74 ≤ n) (hT : TyM a E C) (x1 : Int32) (hx1 : rg x1 0 4) : Met l yX7_lengthOf (oh_w yX7_lengthOf cX7_lengthOf 2 (some .int)) ({ frames := 0, cells := 0, slots := 0, locals := 0 }) (oh_Pp D E G [.ref (a 0), .int x1] (oh_W n a C)) (vp_Si (fun r => r = ((ga (C (64 + (x1).toNatClampNeg)) ((1 : Int32)).toNatClampNeg) * ((ga (C (64 + (x1).toNatClampNeg)) ((0 : Int32)).toNatClampNeg) - 1)) + 4)) 0 0 (fun _ => False) := by
  refine Met.ofW (cc := cX7_lengthOf) (maxL := 2) (ret := (some .int)) (by decide) rfl ?_
  intro p e s m args below meth c s₁ B hml hv
  obtain ⟨rfl, hP, hK, hG⟩ := hv
  have hx := B.exec
  have hb := B.bytes
  have hr := B.returns
  have hts := atoms_spec (ws := (oh_w yX7_lengthOf cX7_lengthOf 2 (some .int))) B.pre
  have htg : ∀ w ∈ oh_t, w.before _ s = true := fun w h => hts w (List.mem_cons_of_mem _ h)
  have hown : s.vm.findClass RX7 = some m.cls := findClass_of_methodNamed B.named
  have hlocks := B.notSynchronized
  have hT0 := hT
  have hS : va_S (fun _ => False) s.heap s.heap [] := va_S.rf
  have hl := lv_entry ([.ref (a 0), .int x1]) (n := 2) (Nat.le_of_ble_eq_true rfl)
  rw [lg_entry_eq]
  generalize (lg_sl ([.ref (a 0), .int x1]) ++ List.replicate (2 - (lg_sl ([.ref (a 0), .int x1])).length) Slot.unset).toArray = ls at hl ⊢
  have hl : lv_has ls 2 [(0, .ref (a 0)), (1, .int x1)] := hl
  refine oh_genQ (fun Q hQ => ?_)
  refine lv_aload_n hx hb dX7_lengthOf_0 rfl (lv_at hl 0 rfl) ?_
  refine va_get (D := D) (ci := 7) (v := .ref (a 11)) (C := RX7) (T := TX7) (N := 29) hx hb htg ig_7 hown hK hP 0 (oh_wg (Nat.lt_of_lt_of_le (by decide) hn) (sM_0 hT)) rfl 14 (by decide) (htg _ q_987) (fun _ h9 => h9) rfl dX7_lengthOf_1 ?_
  refine lv_iload_n hx hb dX7_lengthOf_4 rfl (lv_at hl 1 rfl) ?_
  have n_1 : vp_in x1 5 := (rg_in hx1 (by decide))
  have b_2 : (x1).toNatClampNeg < 5 := vp_lt n_1
  refine th_aald hx hb hK hP 11 2 (Nat.lt_of_lt_of_le (by decide) hn) (sM_11 hT) rfl n_1 dX7_lengthOf_5 ?_
  refine lv_iconst (v := 1) hx hb dX7_lengthOf_6 (by decide) ?_
  refine th_iald hx hb hK hP (64 + (x1).toNatClampNeg) (lt_blk b_2 hn (by decide)) (hT.bwaggon b_2).1 (rg_in (rg_c (v := 1) (lo := 1) (hi := 1) (by decide)) (by decide)) dX7_lengthOf_7 ?_
  refine lv_aload_n hx hb dX7_lengthOf_8 rfl (lv_at hl 0 rfl) ?_
  refine va_get (D := D) (ci := 7) (v := .ref (a 11)) (C := RX7) (T := TX7) (N := 29) hx hb htg ig_7 hown hK hP 0 (oh_wg (Nat.lt_of_lt_of_le (by decide) hn) (sM_0 hT)) rfl 14 (by decide) (htg _ q_987) (fun _ h9 => h9) rfl dX7_lengthOf_9 ?_
  refine lv_iload_n hx hb dX7_lengthOf_12 rfl (lv_at hl 1 rfl) ?_
  have n_3 : vp_in x1 5 := (rg_in hx1 (by decide))
  have b_4 : (x1).toNatClampNeg < 5 := vp_lt n_3
  refine th_aald hx hb hK hP 11 2 (Nat.lt_of_lt_of_le (by decide) hn) (sM_11 hT) rfl n_3 dX7_lengthOf_13 ?_
  refine lv_iconst (v := 0) hx hb dX7_lengthOf_14 (by decide) ?_
  refine th_iald hx hb hK hP (64 + (x1).toNatClampNeg) (lt_blk b_4 hn (by decide)) (hT.bwaggon b_4).1 (rg_in (rg_c (v := 0) (lo := 0) (hi := 0) (by decide)) (by decide)) dX7_lengthOf_15 ?_
  refine lv_iconst (v := 1) hx hb dX7_lengthOf_16 (by decide) ?_
  refine lv_isub hx hb dX7_lengthOf_17 ?_
  refine lv_imul hx hb dX7_lengthOf_18 ?_
  refine lv_iconst (v := 4) hx hb dX7_lengthOf_19 (by decide) ?_
  refine lv_iadd hx hb dX7_lengthOf_20 ?_
  rw [hQ]
  exact W.iret (v := ((ga (C (64 + (x1).toNatClampNeg)) ((1 : Int32)).toNatClampNeg) * ((ga (C (64 + (x1).toNatClampNeg)) ((0 : Int32)).toNatClampNeg) - 1)) + 4) hx hb hr (fun t ht hW => ⟨((ga (C (64 + (x1).toNatClampNeg)) ((1 : Int32)).toNatClampNeg) * ((ga (C (64 + (x1).toNatClampNeg)) ((0 : Int32)).toNatClampNeg) - 1)) + 4, rfl, rfl, ht⟩) (fun q h => by cases h) dX7_lengthOf_21

set_option maxHeartbeats 4000000 in
set_option maxRecDepth 100000 in
theorem e_X7_length (l : Launch) (D : va_G) (E : Nat → ClassId) (G : Nat → Nat) (sz : Nat) (a : Nat → Nat) (C : Nat → va_E) (n : Nat) (hn : 74 ≤ n) (hT : TyM a E C) (x1 : Int32) (hR : RelM C) : Met l yX7_length (oh_w yX7_length cX7_length 2 (some .int)) ({ frames := 2, cells := 0, slots := 0, locals := 46 }) (oh_Pm D E G [.ref (a 0), .int x1] (oh_W n a C) sz) (va_Qi (fun r (u : Nat → va_E) => TyM a E u ∧ fr [(8, 9)] [] C u ∧ (RelM u) ∧ (∀ A : LA, absM C A → r = spLen A x1)) (oh_B D (va_A (oh_W n a C) sz) (fun u => oh_W n a u)) (va_A (oh_W n a C) sz)) 0 0 (va_A (oh_W n a C) sz) := by
  refine Met.ofW (cc := cX7_length) (maxL := 2) (ret := (some .int)) (by decide) rfl ?_
  intro p e s m args below meth c s₁ B hml hv
  obtain ⟨rfl, hsz, hP, hK, hD0, hG⟩ := hv
  have hx := B.exec
  have hb := B.bytes
  have hr := B.returns
  have hts := atoms_spec (ws := (oh_w yX7_length cX7_length 2 (some .int))) B.pre
  have htg : ∀ w ∈ oh_t, w.before _ s = true := fun w h => hts w (List.mem_cons_of_mem _ h)
  have hown : s.vm.findClass RX7 = some m.cls := findClass_of_methodNamed B.named
  have hlocks := B.notSynchronized
  have hT0 := hT
  subst hsz
  have hD := hD0.self (sz := s.heap.size)
  generalize hAe : va_A (oh_W n a C) s.heap.size = A at hD hG ⊢
  have hA : ∀ q : Nat, s.heap.size ≤ q → A q := fun q h => by rw [← hAe]; exact Or.inr h
  have hS : va_S A s.heap s.heap [] := va_S.rf
  have hF : fr [(8, 9)] [] C C := fr_rf
  have hl := lv_entry ([.ref (a 0), .int x1]) (n := 2) (Nat.le_of_ble_eq_true rfl)
  rw [lg_entry_eq]
  generalize (lg_sl ([.ref (a 0), .int x1]) ++ List.replicate (2 - (lg_sl ([.ref (a 0), .int x1])).length) Slot.unset).toArray = ls at hl ⊢
  have hl : lv_has ls 2 [(0, .ref (a 0)), (1, .int x1)] := hl
  refine oh_genQ (fun Q hQ => ?_)
  refine lv_aload_n hx hb dX7_length_0 rfl (lv_at hl 0 rfl) ?_
  refine lv_iload_n hx hb dX7_length_1 rfl (lv_at hl 1 rfl) ?_
  refine tq_V (As := [.int x1]) (rest := []) (ws := (oh_W n a C)) ⟨hx, hb, hml, hown, htg⟩ (e_X7_isWaggon l D E G a C n hn hT x1 hR.1) (cwV 1 htg (oh_gV q_1278 q_1280 q_48 q_73 q_1281) rfl rfl rfl pdVX7_isWaggon ⟨Nat.le_of_ble_eq_true rfl, Nat.le_of_ble_eq_true rfl⟩) hK hP hG hS (va_recv hK hP (ci := 7) (q0 := 0) rfl (oh_wg (Nat.lt_of_lt_of_le (by decide) hn) (sM_0 hT))) rfl hl.1 rfl (Nat.le_of_ble_eq_true rfl) dX7_length_2 ⟨Nat.le_of_ble_eq_true rfl, Nat.le_of_ble_eq_true rfl⟩ (fun r_1 hq_2 => ?_)
  refine lv_if_eq (tgt := 16) hx hb dX7_length_5 (by decide) (fun (c_3 : r_1 = 0) => ?_) (fun (c_3 : ¬ (r_1 = 0)) => ?_)
  · have u_4 := hq_2.2.2 c_3
    refine lv_aload_n hx hb dX7_length_16 rfl (lv_at hl 0 rfl) ?_
    refine lv_bipush (v := (-2)) hx hb dX7_length_17 (by decide) ?_
    refine tm_V (As := [.int (-2)]) (rest := []) ⟨hx, hb, hml, hown, htg⟩ (c_X7_refuse l D E G _ a C n hn hT ((-2) : Int32) (rg_w (rg_c (v := (-2)) (lo := (-2)) (hi := (-2)) (by decide)) (by decide))) (cwV 1 htg (oh_gV q_1071 q_1073 q_29 q_73 q_1074) rfl rfl rfl pdVX7_refuse ⟨Nat.le_of_ble_eq_true rfl, Nat.le_of_ble_eq_true rfl⟩) hK hP hD hG hS hA (va_recv hK hP (ci := 7) (q0 := 0) rfl (oh_wg (Nat.lt_of_lt_of_le (by decide) hn) (sM_0 hT))) rfl hl.1 rfl (Nat.le_of_ble_eq_true rfl) dX7_length_19 ⟨Nat.le_of_ble_eq_true rfl, Nat.le_of_ble_eq_true rfl⟩ (fun r_5 C_6 H locs hq_7 hP hD hS => ?_)
    obtain ⟨hT, f_8, hq_7⟩ := hq_7
    have hF := fr_tr hF f_8 (by decide) (by decide)
    refine W.widen (k := 0) (n := 0) (Nat.le_refl _) (Nat.le_refl _) ?_
    have t_9 := hT
    rw [hQ]
    exact W.iret (v := r_5) hx hb hr (fun t ht hW => ⟨⟨r_5, C_6, rfl, ⟨hT, hF, ⟨⟨hR.1.fr hF (by decide), hR.2.fr hF (by decide)⟩, (fun A hA => Eq.trans hq_7 (pif_neg (by rw [← (show gi (C 0) 13 = A 5 0 2 from hA.1 2 (by decide))]; exact u_4)).symm)⟩⟩, ⟨by rw [ht]; exact hP, hD⟩⟩, hS.F ht⟩) hS.2.2 dX7_length_22
  · have u_10 := hq_2.2.1 c_3
    refine lv_aload_n hx hb dX7_length_8 rfl (lv_at hl 0 rfl) ?_
    refine lv_iload_n hx hb dX7_length_9 rfl (lv_at hl 1 rfl) ?_
    refine tq_V (As := [.int x1]) (rest := []) (ws := (oh_W n a C)) ⟨hx, hb, hml, hown, htg⟩ (e_X7_lengthOf l D E G a C n hn hT x1 (rg_w u_10.1 (by decide))) (cwV 1 htg (oh_gV q_1282 q_1284 q_49 q_73 q_1285) rfl rfl rfl pdVX7_lengthOf ⟨Nat.le_of_ble_eq_true rfl, Nat.le_of_ble_eq_true rfl⟩) hK hP hG hS (va_recv hK hP (ci := 7) (q0 := 0) rfl (oh_wg (Nat.lt_of_lt_of_le (by decide) hn) (sM_0 hT))) rfl hl.1 rfl (Nat.le_of_ble_eq_true rfl) dX7_length_10 ⟨Nat.le_of_ble_eq_true rfl, Nat.le_of_ble_eq_true rfl⟩ (fun r_11 hq_12 => ?_)
    subst hq_12
    refine lv_goto (tgt := 22) hx hb dX7_length_13 (by decide) ?_
    rw [hQ]
    exact W.iret (v := ((ga (C (64 + (x1).toNatClampNeg)) ((1 : Int32)).toNatClampNeg) * ((ga (C (64 + (x1).toNatClampNeg)) ((0 : Int32)).toNatClampNeg) - 1)) + 4) hx hb hr (fun t ht hW => ⟨⟨((ga (C (64 + (x1).toNatClampNeg)) ((1 : Int32)).toNatClampNeg) * ((ga (C (64 + (x1).toNatClampNeg)) ((0 : Int32)).toNatClampNeg) - 1)) + 4, C, rfl, ⟨hT, hF, ⟨hR, (fun A hA => Eq.trans (by rw [(show ga (C (64 + (x1).toNatClampNeg)) ((1 : Int32)).toNatClampNeg = A 2 x1.toNatClampNeg 1 from colM_v (t := 2) hA (by decide) (rg_w (lo := 0) (hi := 4) u_10.1 (by decide)) (by decide) (show 0 ≤ x1 ∧ x1 < A 5 0 2 by rw [← (show gi (C 0) 13 = A 5 0 2 from hA.1 2 (by decide))]; exact u_10.2.2.2).2 (by unfold vis; omega)), (show ga (C (64 + (x1).toNatClampNeg)) ((0 : Int32)).toNatClampNeg = A 2 x1.toNatClampNeg 0 from colM_v (t := 2) hA (by decide) (rg_w (lo := 0) (hi := 4) u_10.1 (by decide)) (by decide) (show 0 ≤ x1 ∧ x1 < A 5 0 2 by rw [← (show gi (C 0) 13 = A 5 0 2 from hA.1 2 (by decide))]; exact u_10.2.2.2).2 (by unfold vis; omega))]) (pif_pos (show 0 ≤ x1 ∧ x1 < A 5 0 2 by rw [← (show gi (C 0) 13 = A 5 0 2 from hA.1 2 (by decide))]; exact u_10.2.2.2)).symm)⟩⟩, ⟨by rw [ht]; exact hP, hD⟩⟩, hS.F ht⟩) hS.2.2 dX7_length_22
