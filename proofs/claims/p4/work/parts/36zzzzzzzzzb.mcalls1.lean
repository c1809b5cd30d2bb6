set_option maxHeartbeats 4000000 in
set_option maxRecDepth 100000 in
theorem e_X7_hang (l : Launch) (D : va_G) (E : Nat → ClassId) (G : Nat → Nat) (sz : Nat) (a : Nat → Nat) (C : Nat → va_E) (n : Nat) (hn : 74 ≤ n) (hT : TyM a E C) (x1 : Int32) (x2 : Int32) (x3 : Int32) (x4 : Int32) (hR : RelM C) : Met l yX7_hang (oh_w yX7_hang cX7_hang 13 (some .int)) ({ frames := 7, cells := 0, slots := 0, locals := 177 }) (oh_Pm D E G [.ref (a 0), .int x1, .int x2, .int x3, .int x4] (oh_W n a C) sz) (va_Qi (fun r (u : Nat → va_E) => TyM a E u ∧ fr [(8, 9), (15, 16), (48, 64)] [] C u ∧ (RelM u) ∧ (∀ A : LA, absM C A → absM u A)) (oh_B D (va_A (oh_W n a C) sz) (fun u => oh_W n a u)) (va_A (oh_W n a C) sz)) 0 0 (va_A (oh_W n a C) sz) := by
  refine Met.ofW (cc := cX7_hang) (maxL := 13) (ret := (some .int)) (by decide) rfl ?_
  intro p e s m args below meth c s₁ B hml hv
  obtain ⟨rfl, hsz, hP, hK, hD0, hG⟩ := hv
  have hx := B.exec
  have hb := B.bytes
  have hr := B.returns
  have hts := atoms_spec (ws := (oh_w yX7_hang cX7_hang 13 (some .int))) B.pre
  have htg : ∀ w ∈ oh_t, w.before _ s = true := fun w h => hts w (List.mem_cons_of_mem _ h)
  have hown : s.vm.findClass RX7 = some m.cls := findClass_of_methodNamed B.named
  have hlocks := B.notSynchronized
  have hT0 := hT
  subst hsz
  have hD := hD0.self (sz := s.heap.size)
  generalize hAe : va_A (oh_W n a C) s.heap.size = A at hD hG ⊢
  have hA : ∀ q : Nat, s.heap.size ≤ q → A q := fun q h => by rw [← hAe]; exact Or.inr h
  have hS : va_S A s.heap s.heap [] := va_S.rf
  have hF : fr [(8, 9), (15, 16), (48, 64)] [] C C := fr_rf
  have hl := lv_entry ([.ref (a 0), .int x1, .int x2, .int x3, .int x4]) (n := 13) (Nat.le_of_ble_eq_true rfl)
  rw [lg_entry_eq]
  generalize (lg_sl ([.ref (a 0), .int x1, .int x2, .int x3, .int x4]) ++ List.replicate (13 - (lg_sl ([.ref (a 0), .int x1, .int x2, .int x3, .int x4])).length) Slot.unset).toArray = ls at hl ⊢
  have hl : lv_has ls 13 [(0, .ref (a 0)), (1, .int x1), (2, .int x2), (3, .int x3), (4, .int x4)] := hl
  refine oh_genQ (fun Q hQ => ?_)
  refine lv_aload_n hx hb dX7_hang_0 rfl (lv_at hl 0 rfl) ?_
  refine lv_iload_n hx hb dX7_hang_1 rfl (lv_at hl 1 rfl) ?_
  refine lv_iload_n hx hb dX7_hang_2 rfl (lv_at hl 2 rfl) ?_
  refine tq_V (As := [.int x1, .int x2]) (rest := []) (ws := (oh_W n a C)) ⟨hx, hb, hml, hown, htg⟩ (c_X7_isPack l D E G a C n hn hT x1 x2 hR.1) (cwV 2 htg (oh_gV q_1290 q_1292 q_50 q_73 q_1293) rfl rfl rfl pdVX7_isPack ⟨Nat.le_of_ble_eq_true rfl, Nat.le_of_ble_eq_true rfl⟩) hK hP hG hS (va_recv hK hP (ci := 7) (q0 := 0) rfl (oh_wg (Nat.lt_of_lt_of_le (by decide) hn) (sM_0 hT))) rfl hl.1 rfl (Nat.le_of_ble_eq_true rfl) dX7_hang_3 ⟨Nat.le_of_ble_eq_true rfl, Nat.le_of_ble_eq_true rfl⟩ (fun r_1 hq_2 => ?_)
  refine lv_if_eq (tgt := 24) hx hb dX7_hang_6 (by decide) (fun (c_3 : r_1 = 0) => ?_) (fun (c_3 : ¬ (r_1 = 0)) => ?_)
  · refine lv_aload_n hx hb dX7_hang_24 rfl (lv_at hl 0 rfl) ?_
    refine lv_bipush (v := (-2)) hx hb dX7_hang_25 (by decide) ?_
    refine tm_V (As := [.int (-2)]) (rest := []) ⟨hx, hb, hml, hown, htg⟩ (c_X7_refuse l D E G _ a C n hn hT ((-2) : Int32) (rg_w (rg_c (v := (-2)) (lo := (-2)) (hi := (-2)) (by decide)) (by decide))) (cwV 1 htg (oh_gV q_1071 q_1073 q_29 q_73 q_1074) rfl rfl rfl pdVX7_refuse ⟨Nat.le_of_ble_eq_true rfl, Nat.le_of_ble_eq_true rfl⟩) hK hP hD hG hS hA (va_recv hK hP (ci := 7) (q0 := 0) rfl (oh_wg (Nat.lt_of_lt_of_le (by decide) hn) (sM_0 hT))) rfl hl.1 rfl (Nat.le_of_ble_eq_true rfl) dX7_hang_27 ⟨Nat.le_of_ble_eq_true rfl, Nat.le_of_ble_eq_true rfl⟩ (fun r_4 C_5 H locs hq_6 hP hD hS => ?_)
    obtain ⟨hT, f_7, hq_6⟩ := hq_6
    have hF := fr_tr hF f_7 (by decide) (by decide)
    refine W.widen (k := 0) (n := 0) (Nat.le_refl _) (Nat.le_refl _) ?_
    have t_8 := hT
    rw [hQ]
    exact W.iret (v := r_4) hx hb hr (fun t ht hW => ⟨⟨r_4, C_5, rfl, ⟨hT, hF, ⟨⟨hR.1.fr hF (by decide), hR.2.fr hF (by decide)⟩, (fun A hA => by have h1 := hA; have h2 := absM_fr h1 hT0 (show fr [(8, 9)] [] C C_5 from (fr_tr fr_rf f_7 (by decide) (by decide))) (by decide) (by decide) (by decide); exact h2)⟩⟩, ⟨by rw [ht]; exact hP, hD⟩⟩, hS.F ht⟩) hS.2.2 dX7_hang_30
  · have u_9 := hq_2.2 c_3
    refine lv_iload_n hx hb dX7_hang_9 rfl (lv_at hl 3 rfl) ?_
    refine tq_S (As := [.int x3]) (rest := []) (ws := []) ⟨hx, hb, hml, hown, htg⟩ (e_X7_isPlace l D E G x3) (va_cwS 1 htg (oh_gS q_1130 q_1131 q_73 q_1132) rfl rfl rfl pdX7_isPlace ⟨Nat.le_of_ble_eq_true rfl, Nat.le_of_ble_eq_true rfl⟩) hK va_nil hG hS rfl hl.1 rfl (Nat.le_of_ble_eq_true rfl) dX7_hang_10 ⟨Nat.le_of_ble_eq_true rfl, Nat.le_of_ble_eq_true rfl⟩ (fun r_10 hq_11 => ?_)
    refine lv_if_eq (tgt := 24) hx hb dX7_hang_13 (by decide) (fun (c_12 : r_10 = 0) => ?_) (fun (c_12 : ¬ (r_10 = 0)) => ?_)
    · have u_13 := hq_11.2.2 c_12
      refine lv_aload_n hx hb dX7_hang_24 rfl (lv_at hl 0 rfl) ?_
      refine lv_bipush (v := (-2)) hx hb dX7_hang_25 (by decide) ?_
      refine tm_V (As := [.int (-2)]) (rest := []) ⟨hx, hb, hml, hown, htg⟩ (c_X7_refuse l D E G _ a C n hn hT ((-2) : Int32) (rg_w (rg_c (v := (-2)) (lo := (-2)) (hi := (-2)) (by decide)) (by decide))) (cwV 1 htg (oh_gV q_1071 q_1073 q_29 q_73 q_1074) rfl rfl rfl pdVX7_refuse ⟨Nat.le_of_ble_eq_true rfl, Nat.le_of_ble_eq_true rfl⟩) hK hP hD hG hS hA (va_recv hK hP (ci := 7) (q0 := 0) rfl (oh_wg (Nat.lt_of_lt_of_le (by decide) hn) (sM_0 hT))) rfl hl.1 rfl (Nat.le_of_ble_eq_true rfl) dX7_hang_27 ⟨Nat.le_of_ble_eq_true rfl, Nat.le_of_ble_eq_true rfl⟩ (fun r_14 C_15 H locs hq_16 hP hD hS => ?_)
      obtain ⟨hT, f_17, hq_16⟩ := hq_16
      have hF := fr_tr hF f_17 (by decide) (by decide)
      refine W.widen (k := 0) (n := 0) (Nat.le_refl _) (Nat.le_refl _) ?_
      have t_18 := hT
      rw [hQ]
      exact W.iret (v := r_14) hx hb hr (fun t ht hW => ⟨⟨r_14, C_15, rfl, ⟨hT, hF, ⟨⟨hR.1.fr hF (by decide), hR.2.fr hF (by decide)⟩, (fun A hA => by have h1 := hA; have h2 := absM_fr h1 hT0 (show fr [(8, 9)] [] C C_15 from (fr_tr fr_rf f_17 (by decide) (by decide))) (by decide) (by decide) (by decide); exact h2)⟩⟩, ⟨by rw [ht]; exact hP, hD⟩⟩, hS.F ht⟩) hS.2.2 dX7_hang_30
    · have u_19 := hq_11.2.1 c_12
      refine lv_iload hx hb dX7_hang_16 (lv_at hl 4 rfl) ?_
      refine tq_S (As := [.int x4]) (rest := []) (ws := []) ⟨hx, hb, hml, hown, htg⟩ (e_X7_isPlace l D E G x4) (va_cwS 1 htg (oh_gS q_1130 q_1131 q_73 q_1132) rfl rfl rfl pdX7_isPlace ⟨Nat.le_of_ble_eq_true rfl, Nat.le_of_ble_eq_true rfl⟩) hK va_nil hG hS rfl hl.1 rfl (Nat.le_of_ble_eq_true rfl) dX7_hang_18 ⟨Nat.le_of_ble_eq_true rfl, Nat.le_of_ble_eq_true rfl⟩ (fun r_20 hq_21 => ?_)
      refine lv_if_ne (tgt := 31) hx hb dX7_hang_21 (by decide) (fun (c_22 : ¬ (r_20 = 0)) => ?_) (fun (c_22 : r_20 = 0) => ?_)
      · have u_23 := hq_21.2.1 c_22
        refine lv_aload_n hx hb dX7_hang_31 rfl (lv_at hl 0 rfl) ?_
        refine va_get (D := D) (ci := 7) (v := .int (gi (C 0) 11)) (C := RX7) (T := TX7) (N := 29) hx hb htg ig_7 hown hK hP 0 (oh_wg (Nat.lt_of_lt_of_le (by decide) hn) (sM_0 hT)) rfl 11 (by decide) (htg _ q_984) (fun _ h9 => h9) rfl dX7_hang_32 ?_
        refine lv_if_eq (tgt := 52) hx hb dX7_hang_35 (by decide) (fun (c_24 : (gi (C 0) 11) = 0) => ?_) (fun (c_24 : ¬ ((gi (C 0) 11) = 0)) => ?_)
        · refine lv_aload_n hx hb dX7_hang_52 rfl (lv_at hl 0 rfl) ?_
          refine lv_bipush (v := (-5)) hx hb dX7_hang_53 (by decide) ?_
          refine tm_V (As := [.int (-5)]) (rest := []) ⟨hx, hb, hml, hown, htg⟩ (c_X7_refuse l D E G _ a C n hn hT ((-5) : Int32) (rg_w (rg_c (v := (-5)) (lo := (-5)) (hi := (-5)) (by decide)) (by decide))) (cwV 1 htg (oh_gV q_1071 q_1073 q_29 q_73 q_1074) rfl rfl rfl pdVX7_refuse ⟨Nat.le_of_ble_eq_true rfl, Nat.le_of_ble_eq_true rfl⟩) hK hP hD hG hS hA (va_recv hK hP (ci := 7) (q0 := 0) rfl (oh_wg (Nat.lt_of_lt_of_le (by decide) hn) (sM_0 hT))) rfl hl.1 rfl (Nat.le_of_ble_eq_true rfl) dX7_hang_55 ⟨Nat.le_of_ble_eq_true rfl, Nat.le_of_ble_eq_true rfl⟩ (fun r_25 C_26 H locs hq_27 hP hD hS => ?_)
          obtain ⟨hT, f_28, hq_27⟩ := hq_27
          have hF := fr_tr hF f_28 (by decide) (by decide)
          refine W.widen (k := 0) (n := 0) (Nat.le_refl _) (Nat.le_refl _) ?_
          have t_29 := hT
          rw [hQ]
          exact W.iret (v := r_25) hx hb hr (fun t ht hW => ⟨⟨r_25, C_26, rfl, ⟨hT, hF, ⟨⟨hR.1.fr hF (by decide), hR.2.fr hF (by decide)⟩, (fun A hA => by have h1 := hA; have h2 := absM_fr h1 hT0 (show fr [(8, 9)] [] C C_26 from (fr_tr fr_rf f_28 (by decide) (by decide))) (by decide) (by decide) (by decide); exact h2)⟩⟩, ⟨by rw [ht]; exact hP, hD⟩⟩, hS.F ht⟩) hS.2.2 dX7_hang_58
        · refine lv_aload_n hx hb dX7_hang_38 rfl (lv_at hl 0 rfl) ?_
          refine lv_iload_n hx hb dX7_hang_39 rfl (lv_at hl 1 rfl) ?_
          refine lv_iload_n hx hb dX7_hang_40 rfl (lv_at hl 2 rfl) ?_
          refine lv_iload_n hx hb dX7_hang_41 rfl (lv_at hl 3 rfl) ?_
          refine lv_iload hx hb dX7_hang_42 (lv_at hl 4 rfl) ?_
          refine lv_iconst (v := 1) hx hb dX7_hang_44 (by decide) ?_
          refine tm_V (As := [.int x1, .int x2, .int x3, .int x4, .int 1]) (rest := []) ⟨hx, hb, hml, hown, htg⟩ (c_X7_cheapestOf l D E G _ a C n hn hT x1 x2 x3 x4 (1 : Int32) (rg_w u_9.1 (by decide)) (rg_w u_19 (by decide)) (rg_w u_23 (by decide)) u_9.2.1) (cwV 5 htg (oh_gV q_1347 q_1349 q_59 q_73 q_1350) rfl rfl rfl pdVX7_cheapestOf ⟨Nat.le_of_ble_eq_true rfl, Nat.le_of_ble_eq_true rfl⟩) hK hP hD hG hS hA (va_recv hK hP (ci := 7) (q0 := 0) rfl (oh_wg (Nat.lt_of_lt_of_le (by decide) hn) (sM_0 hT))) rfl hl.1 rfl (Nat.le_of_ble_eq_true rfl) dX7_hang_45 ⟨Nat.le_of_ble_eq_true rfl, Nat.le_of_ble_eq_true rfl⟩ (fun r_30 C_31 H locs hq_32 hP hD hS => ?_)
          obtain ⟨hT, f_33, hq_32⟩ := hq_32
          have hF := fr_tr hF f_33 (by decide) (by decide)
          refine W.widen (k := 0) (n := 0) (Nat.le_refl _) (Nat.le_refl _) ?_
          have t_34 := hT
          refine lv_iconst (v := (-1)) hx hb dX7_hang_48 (by decide) ?_
          refine lv_icmp_ne (tgt := 59) hx hb dX7_hang_49 (by decide) (fun (c_35 : ¬ (r_30 = (-1))) => ?_) (fun (c_35 : r_30 = (-1)) => ?_)
          · refine lv_iconst (v := (-1)) hx hb dX7_hang_59 (by decide) ?_
            refine lv_istore (lv' := [(5, .int (-1)), (0, .ref (a 0)), (1, .int x1), (2, .int x2), (3, .int x3), (4, .int x4)]) hx hb dX7_hang_60 hl (by decide) rfl (fun ls hl => ?_)
            refine lv_lconst (v := 0) hx hb dX7_hang_62 (by decide) ?_
            refine lv_lstore (lv' := [(6, .long 0), (5, .int (-1)), (0, .ref (a 0)), (1, .int x1), (2, .int x2), (3, .int x3), (4, .int x4)]) hx hb dX7_hang_63 hl (by decide) rfl (fun ls hl => ?_)
            refine lv_iconst (v := 0) hx hb dX7_hang_65 (by decide) ?_
            refine lv_istore (lv' := [(8, .int 0), (6, .long 0), (5, .int (-1)), (0, .ref (a 0)), (1, .int x1), (2, .int x2), (3, .int x3), (4, .int x4)]) hx hb dX7_hang_66 hl (by decide) rfl (fun ls hl => ?_)
            have L_68 : ∀ (d : Nat) (K68 : Nat → va_E) (z68_8 : Int32) (z68_6 : Int64) (z68_5 : Int32) (H : Heap) (locs : List Loc) (ls : Array Slot), (16 - z68_8.toInt).toNat = d → rg z68_8 0 16 → (∀ A : LA, absM C A → absM K68 A) → TyM a E K68 → fr [(8, 9), (15, 16), (48, 64)] [] C K68 → fr [(15, 16), (48, 64)] [] C_31 K68 → va_P D vwCl (oh_W n a K68) H → va_D A (oh_W n a K68) → va_S A s.heap H locs → lv_has ls 13 [(8, .int z68_8), (6, .long z68_6), (5, .int z68_5), (0, .ref (a 0)), (1, .int x1), (2, .int x2), (3, .int x3), (4, .int x4)] → W p l e ({ frames := 7, cells := 0, slots := 0, locals := 177 }) s m (([.ref (a 0), .int x1, .int x2, .int x3, .int x4] : List Value).toArray) below meth c H locs 0 0 Q (F0 m 68 ls []) := by
              intro d
              induction d using Nat.strongRecOn with
              | ind d ih_68 =>
              intro K68 z68_8 z68_6 z68_5 H locs ls hd_68 hz68_8 hx_68 hT hF hLF_68 hP hD hS hl
              have t_36 := hT
              refine lv_iload hx hb dX7_hang_68 (lv_at hl 0 rfl) ?_
              refine lv_aload_n hx hb dX7_hang_70 rfl (lv_at hl 3 rfl) ?_
              refine va_get (D := D) (ci := 7) (v := .int (gi (C 0) 11)) (C := RX7) (T := TX7) (N := 29) hx hb htg ig_7 hown hK hP 0 (oh_wg (Nat.lt_of_lt_of_le (by decide) hn) (sM_0 hT)) rfl 11 (by decide) (htg _ q_984) (fun _ h9 => h9) (oh_fv (c := K68 0) (j := 11) rfl (Eq.trans (congrArg vi (hLF_68.2 11 (by decide))) (congrArg vi (f_33.2 11 (by decide))))) dX7_hang_71 ?_
              refine lv_icmp_ge (tgt := 169) hx hb dX7_hang_74 (by decide) (fun (c_37 : (gi (C 0) 11) ≤ z68_8) => ?_) (fun (c_37 : ¬ ((gi (C 0) 11) ≤ z68_8)) => ?_)
              · refine lv_iload hx hb dX7_hang_169 (lv_at hl 2 rfl) ?_
                rw [hQ]
                exact W.iret (v := z68_5) hx hb hr (fun t ht hW => ⟨⟨z68_5, K68, rfl, ⟨hT, hF, ⟨⟨hR.1.fr hF (by decide), hR.2.fr hF (by decide)⟩, (fun A hA => by have h1 := (hx_68 A hA); exact h1)⟩⟩, ⟨by rw [ht]; exact hP, hD⟩⟩, hS.F ht⟩) hS.2.2 dX7_hang_171
              · refine lv_aload_n hx hb dX7_hang_77 rfl (lv_at hl 3 rfl) ?_
                refine va_get (D := D) (ci := 7) (v := .ref (a 10)) (C := RX7) (T := TX7) (N := 29) hx hb htg ig_7 hown hK hP 0 (oh_wg (Nat.lt_of_lt_of_le (by decide) hn) (sM_0 hT)) rfl 12 (by decide) (htg _ q_985) (fun _ h9 => h9) rfl dX7_hang_78 ?_
                refine lv_iload hx hb dX7_hang_81 (lv_at hl 0 rfl) ?_
                have n_38 : vp_in z68_8 16 := (rg_in (rn_ltu (u' := 15) (Int32.not_le.mp c_37) hz68_8 (rn_nel (l' := 1) c_24 (fM_0_11 hT0) (rg_c (v := 0) (lo := 0) (hi := 0) (by decide)) (by decide)) (by decide)) (by decide))
                have b_39 : (z68_8).toNatClampNeg < 16 := vp_lt n_38
                refine th_aald hx hb hK hP 10 2 (Nat.lt_of_lt_of_le (by decide) hn) (sM_10 hT) rfl n_38 dX7_hang_83 ?_
                refine lv_bipush (v := 8) hx hb dX7_hang_84 (by decide) ?_
                refine th_iald hx hb hK hP (48 + (z68_8).toNatClampNeg) (lt_blk b_39 hn (by decide)) (hT.bbridge b_39).1 (rg_in (rg_c (v := 8) (lo := 8) (hi := 8) (by decide)) (by decide)) dX7_hang_86 ?_
                refine lv_istore (lv' := [(9, .int (ga (K68 (48 + (z68_8).toNatClampNeg)) ((8 : Int32)).toNatClampNeg)), (8, .int z68_8), (6, .long z68_6), (5, .int z68_5), (0, .ref (a 0)), (1, .int x1), (2, .int x2), (3, .int x3), (4, .int x4)]) hx hb dX7_hang_87 hl (by decide) rfl (fun ls hl => ?_)
                refine lv_aload_n hx hb dX7_hang_89 rfl (lv_at hl 4 rfl) ?_
                refine va_get (D := D) (ci := 7) (v := .ref (a 10)) (C := RX7) (T := TX7) (N := 29) hx hb htg ig_7 hown hK hP 0 (oh_wg (Nat.lt_of_lt_of_le (by decide) hn) (sM_0 hT)) rfl 12 (by decide) (htg _ q_985) (fun _ h9 => h9) rfl dX7_hang_90 ?_
                refine lv_iload hx hb dX7_hang_93 (lv_at hl 1 rfl) ?_
                have n_40 : vp_in z68_8 16 := (rg_in (rn_ltu (u' := 15) (Int32.not_le.mp c_37) hz68_8 (rn_nel (l' := 1) c_24 (fM_0_11 hT0) (rg_c (v := 0) (lo := 0) (hi := 0) (by decide)) (by decide)) (by decide)) (by decide))
                have b_41 : (z68_8).toNatClampNeg < 16 := vp_lt n_40
                refine th_aald hx hb hK hP 10 2 (Nat.lt_of_lt_of_le (by decide) hn) (sM_10 hT) rfl n_40 dX7_hang_95 ?_
                refine lv_bipush (v := 8) hx hb dX7_hang_96 (by decide) ?_
                refine lv_iconst (v := 1) hx hb dX7_hang_98 (by decide) ?_
                refine th_iast (T := TyM a E) (Rl := fr [(8, 9), (15, 16), (48, 64)] [] C) hx hb hK hP hD hS (48 + (z68_8).toNatClampNeg) (lt_blk b_41 hn (by decide)) (hT.bbridge b_41).1 (rg_in (rg_c (v := 8) (lo := 8) (hi := 8) (by decide)) (by decide)) (hT.upbridge b_41 (tA_upd (hT.bbridge b_41) tA_any)) (fr_st hF (by omega) (inR_of (p := (48, 64)) (by decide) (by show 48 ≤ _; omega) (by show _ < 64; omega))) dX7_hang_99 (fun C_42 H locs e_43 hT hF hP hD hS => ?_)
                have t_44 := hT
                refine lv_aload_n hx hb dX7_hang_100 rfl (lv_at hl 4 rfl) ?_
                refine lv_iload_n hx hb dX7_hang_101 rfl (lv_at hl 5 rfl) ?_
                refine lv_iload_n hx hb dX7_hang_102 rfl (lv_at hl 6 rfl) ?_
                refine lv_iload_n hx hb dX7_hang_103 rfl (lv_at hl 7 rfl) ?_
                refine lv_iload hx hb dX7_hang_104 (lv_at hl 8 rfl) ?_
                refine lv_iconst (v := 1) hx hb dX7_hang_106 (by decide) ?_
                refine tm_V (As := [.int x1, .int x2, .int x3, .int x4, .int 1]) (rest := []) ⟨hx, hb, hml, hown, htg⟩ (c_X7_cheapestOf l D E G _ a C_42 n hn hT x1 x2 x3 x4 (1 : Int32) (rg_w u_9.1 (by decide)) (rg_w u_19 (by decide)) (rg_w u_23 (by decide)) (oh_posU (rg_w u_9.1 (by decide)) (fun i hi => th_un e_43 (by omega)) (oh_posU (rg_w u_9.1 (by decide)) (fun i hi => hLF_68.1 _ (inR_out hi (by decide)) (by omega)) (oh_posU (rg_w u_9.1 (by decide)) (fun i hi => f_33.1 _ (inR_out hi (by decide)) (by omega)) u_9.2.1)))) (cwV 5 htg (oh_gV q_1347 q_1349 q_59 q_73 q_1350) rfl rfl rfl pdVX7_cheapestOf ⟨Nat.le_of_ble_eq_true rfl, Nat.le_of_ble_eq_true rfl⟩) hK hP hD hG hS hA (va_recv hK hP (ci := 7) (q0 := 0) rfl (oh_wg (Nat.lt_of_lt_of_le (by decide) hn) (sM_0 hT))) rfl hl.1 rfl (Nat.le_of_ble_eq_true rfl) dX7_hang_107 ⟨Nat.le_of_ble_eq_true rfl, Nat.le_of_ble_eq_true rfl⟩ (fun r_45 C_46 H locs hq_47 hP hD hS => ?_)
                obtain ⟨hT, f_48, hq_47⟩ := hq_47
                have hF := fr_tr hF f_48 (by decide) (by decide)
                refine W.widen (k := 0) (n := 0) (Nat.le_refl _) (Nat.le_refl _) ?_
                have t_49 := hT
                refine lv_istore (lv' := [(10, .int r_45), (9, .int (ga (K68 (48 + (z68_8).toNatClampNeg)) ((8 : Int32)).toNatClampNeg)), (8, .int z68_8), (6, .long z68_6), (5, .int z68_5), (0, .ref (a 0)), (1, .int x1), (2, .int x2), (3, .int x3), (4, .int x4)]) hx hb dX7_hang_110 hl (by decide) rfl (fun ls hl => ?_)
                refine lv_aload_n hx hb dX7_hang_112 rfl (lv_at hl 5 rfl) ?_
                refine va_get (D := D) (ci := 7) (v := .ref (a 10)) (C := RX7) (T := TX7) (N := 29) hx hb htg ig_7 hown hK hP 0 (oh_wg (Nat.lt_of_lt_of_le (by decide) hn) (sM_0 hT)) rfl 12 (by decide) (htg _ q_985) (fun _ h9 => h9) rfl dX7_hang_113 ?_
                refine lv_iload hx hb dX7_hang_116 (lv_at hl 2 rfl) ?_
                have n_50 : vp_in z68_8 16 := (rg_in (rn_ltu (u' := 15) (Int32.not_le.mp c_37) hz68_8 (rn_nel (l' := 1) c_24 (fM_0_11 hT0) (rg_c (v := 0) (lo := 0) (hi := 0) (by decide)) (by decide)) (by decide)) (by decide))
                have b_51 : (z68_8).toNatClampNeg < 16 := vp_lt n_50
                refine th_aald hx hb hK hP 10 2 (Nat.lt_of_lt_of_le (by decide) hn) (sM_10 hT) rfl n_50 dX7_hang_118 ?_
                refine lv_bipush (v := 8) hx hb dX7_hang_119 (by decide) ?_
                refine lv_iload hx hb dX7_hang_121 (lv_at hl 1 rfl) ?_
                refine th_iast (T := TyM a E) (Rl := fr [(8, 9), (15, 16), (48, 64)] [] C) hx hb hK hP hD hS (48 + (z68_8).toNatClampNeg) (lt_blk b_51 hn (by decide)) (hT.bbridge b_51).1 (rg_in (rg_c (v := 8) (lo := 8) (hi := 8) (by decide)) (by decide)) (hT.upbridge b_51 (tA_upd (hT.bbridge b_51) tA_any)) (fr_st hF (by omega) (inR_of (p := (48, 64)) (by decide) (by show 48 ≤ _; omega) (by show _ < 64; omega))) dX7_hang_123 (fun C_52 H locs e_53 hT hF hP hD hS => ?_)
                have t_54 := hT
                refine lv_iload hx hb dX7_hang_124 (lv_at hl 0 rfl) ?_
                refine lv_iconst (v := (-1)) hx hb dX7_hang_126 (by decide) ?_
                refine lv_icmp_ne (tgt := 136) hx hb dX7_hang_127 (by decide) (fun (c_55 : ¬ (r_45 = (-1))) => ?_) (fun (c_55 : r_45 = (-1)) => ?_)
                · refine lv_iload hx hb dX7_hang_136 (lv_at hl 0 rfl) ?_
                  refine lv_i2l (v := Int32.toInt64 r_45) hx hb dX7_hang_138 (by rfl) ?_
                  refine lv_lstore (lv' := [(11, .long (Int32.toInt64 r_45)), (10, .int r_45), (9, .int (ga (K68 (48 + (z68_8).toNatClampNeg)) ((8 : Int32)).toNatClampNeg)), (8, .int z68_8), (6, .long z68_6), (5, .int z68_5), (0, .ref (a 0)), (1, .int x1), (2, .int x2), (3, .int x3), (4, .int x4)]) hx hb dX7_hang_139 hl (by decide) rfl (fun ls hl => ?_)
                  refine lv_iload hx hb dX7_hang_141 (lv_at hl 5 rfl) ?_
                  refine lv_iconst (v := (-1)) hx hb dX7_hang_143 (by decide) ?_
                  refine lv_icmp_eq (tgt := 155) hx hb dX7_hang_144 (by decide) (fun (c_56 : z68_5 = (-1)) => ?_) (fun (c_56 : ¬ (z68_5 = (-1))) => ?_)
                  · refine lv_iload hx hb dX7_hang_155 (lv_at hl 3 rfl) ?_
                    refine lv_istore (lv' := [(5, .int z68_8), (11, .long (Int32.toInt64 r_45)), (10, .int r_45), (9, .int (ga (K68 (48 + (z68_8).toNatClampNeg)) ((8 : Int32)).toNatClampNeg)), (8, .int z68_8), (6, .long z68_6), (0, .ref (a 0)), (1, .int x1), (2, .int x2), (3, .int x3), (4, .int x4)]) hx hb dX7_hang_157 hl (by decide) rfl (fun ls hl => ?_)
                    refine lv_lload hx hb dX7_hang_159 (lv_at hl 1 rfl) ?_
                    refine lv_lstore (lv' := [(6, .long (Int32.toInt64 r_45)), (5, .int z68_8), (11, .long (Int32.toInt64 r_45)), (10, .int r_45), (9, .int (ga (K68 (48 + (z68_8).toNatClampNeg)) ((8 : Int32)).toNatClampNeg)), (8, .int z68_8), (0, .ref (a 0)), (1, .int x1), (2, .int x2), (3, .int x3), (4, .int x4)]) hx hb dX7_hang_161 hl (by decide) rfl (fun ls hl => ?_)
                    refine lv_iinc (v := z68_8 + 1) (lv' := [(8, .int (z68_8 + 1)), (6, .long (Int32.toInt64 r_45)), (5, .int z68_8), (11, .long (Int32.toInt64 r_45)), (10, .int r_45), (9, .int (ga (K68 (48 + (z68_8).toNatClampNeg)) ((8 : Int32)).toNatClampNeg)), (0, .ref (a 0)), (1, .int x1), (2, .int x2), (3, .int x3), (4, .int x4)]) hx hb dX7_hang_163 hl (k := 5) rfl (by rfl) (by decide) rfl (fun ls hl => ?_)
                    refine lv_goto (tgt := 68) hx hb dX7_hang_166 (by decide) ?_
                    exact ih_68 _ (hd_68 ▸ mu_up 16 (rn_ltu (u' := 15) (Int32.not_le.mp c_37) hz68_8 (rn_nel (l' := 1) c_24 (fM_0_11 hT0) (rg_c (v := 0) (lo := 0) (hi := 0) (by decide)) (by decide)) (by decide)) (by decide)) C_52 (z68_8 + 1) (Int32.toInt64 r_45) z68_8 _ _ ls rfl (rg_w (rg_add (lo := 1) (hi := 16) (rn_ltu (u' := 15) (Int32.not_le.mp c_37) hz68_8 (rn_nel (l' := 1) c_24 (fM_0_11 hT0) (rg_c (v := 0) (lo := 0) (hi := 0) (by decide)) (by decide)) (by decide)) (rg_c (v := 1) (lo := 1) (hi := 1) (by decide)) (by decide)) (by decide)) (fun A hA => by have h1 := (hx_68 A hA); have h2 := absM_st (t := 1) t_36 h1 (by decide) (show (z68_8).toNatClampNeg < 16 from b_41) e_43; have h3 := absM_fr h2 t_44 (show fr [(15, 16)] [] C_42 C_46 from (fr_tr fr_rf f_48 (by decide) (by decide))) (by decide) (by decide) (by decide); have h4 := absM_st (t := 1) t_49 h3 (by decide) (show (z68_8).toNatClampNeg < 16 from b_51) e_53; rw [putA_back (show A 1 (z68_8).toNatClampNeg ((8 : Int32)).toNatClampNeg = ga (K68 (48 + (z68_8).toNatClampNeg)) ((8 : Int32)).toNatClampNeg from (h1.2.2 1 (by decide) (z68_8).toNatClampNeg (by rw [oh_nat (rg_w (lo := 0) (hi := 15) (rn_ltu (u' := 15) (Int32.not_le.mp c_37) hz68_8 (rn_nel (l' := 1) c_24 (fM_0_11 hT0) (rg_c (v := 0) (lo := 0) (hi := 0) (by decide)) (by decide)) (by decide)) (by decide)) (by decide)]; exact Int32.lt_iff_toInt_lt.mp (oh_lte (Int32.not_le.mp c_37) (hA.1 1 (by decide)))) 8 (by decide) (by unfold vis; omega)).symm)] at h4; exact h4) hT hF (fr_ste (fr_tr (fr_ste hLF_68 e_43 (by omega) (inR_of (p := (48, 64)) (by decide) (by show 48 ≤ _; omega) (by show _ < 64; omega))) f_48 (by decide) (by decide)) e_53 (by omega) (inR_of (p := (48, 64)) (by decide) (by show 48 ≤ _; omega) (by show _ < 64; omega))) hP hD hS (lv_sub hl [0, 1, 2, 6, 7, 8, 9, 10] rfl)
                  · refine lv_lload hx hb dX7_hang_147 (lv_at hl 0 rfl) ?_
                    refine lv_lload hx hb dX7_hang_149 (lv_at hl 4 rfl) ?_
                    refine W.lcmp hx hb dX7_hang_151 ?_
                    refine lv_if_le (tgt := 163) hx hb dX7_hang_152 (by decide) (fun (c_57 : (lg_cmp (Int32.toInt64 r_45) z68_6) ≤ 0) => ?_) (fun (c_57 : ¬ ((lg_cmp (Int32.toInt64 r_45) z68_6) ≤ 0)) => ?_)
                    · refine lv_iinc (v := z68_8 + 1) (lv' := [(8, .int (z68_8 + 1)), (11, .long (Int32.toInt64 r_45)), (10, .int r_45), (9, .int (ga (K68 (48 + (z68_8).toNatClampNeg)) ((8 : Int32)).toNatClampNeg)), (6, .long z68_6), (5, .int z68_5), (0, .ref (a 0)), (1, .int x1), (2, .int x2), (3, .int x3), (4, .int x4)]) hx hb dX7_hang_163 hl (k := 3) rfl (by rfl) (by decide) rfl (fun ls hl => ?_)
                      refine lv_goto (tgt := 68) hx hb dX7_hang_166 (by decide) ?_
                      exact ih_68 _ (hd_68 ▸ mu_up 16 (rn_ltu (u' := 15) (Int32.not_le.mp c_37) hz68_8 (rn_nel (l' := 1) c_24 (fM_0_11 hT0) (rg_c (v := 0) (lo := 0) (hi := 0) (by decide)) (by decide)) (by decide)) (by decide)) C_52 (z68_8 + 1) z68_6 z68_5 _ _ ls rfl (rg_w (rg_add (lo := 1) (hi := 16) (rn_ltu (u' := 15) (Int32.not_le.mp c_37) hz68_8 (rn_nel (l' := 1) c_24 (fM_0_11 hT0) (rg_c (v := 0) (lo := 0) (hi := 0) (by decide)) (by decide)) (by decide)) (rg_c (v := 1) (lo := 1) (hi := 1) (by decide)) (by decide)) (by decide)) (fun A hA => by have h1 := (hx_68 A hA); have h2 := absM_st (t := 1) t_36 h1 (by decide) (show (z68_8).toNatClampNeg < 16 from b_41) e_43; have h3 := absM_fr h2 t_44 (show fr [(15, 16)] [] C_42 C_46 from (fr_tr fr_rf f_48 (by decide) (by decide))) (by decide) (by decide) (by decide); have h4 := absM_st (t := 1) t_49 h3 (by decide) (show (z68_8).toNatClampNeg < 16 from b_51) e_53; rw [putA_back (show A 1 (z68_8).toNatClampNeg ((8 : Int32)).toNatClampNeg = ga (K68 (48 + (z68_8).toNatClampNeg)) ((8 : Int32)).toNatClampNeg from (h1.2.2 1 (by decide) (z68_8).toNatClampNeg (by rw [oh_nat (rg_w (lo := 0) (hi := 15) (rn_ltu (u' := 15) (Int32.not_le.mp c_37) hz68_8 (rn_nel (l' := 1) c_24 (fM_0_11 hT0) (rg_c (v := 0) (lo := 0) (hi := 0) (by decide)) (by decide)) (by decide)) (by decide)) (by decide)]; exact Int32.lt_iff_toInt_lt.mp (oh_lte (Int32.not_le.mp c_37) (hA.1 1 (by decide)))) 8 (by decide) (by unfold vis; omega)).symm)] at h4; exact h4) hT hF (fr_ste (fr_tr (fr_ste hLF_68 e_43 (by omega) (inR_of (p := (48, 64)) (by decide) (by show 48 ≤ _; omega) (by show _ < 64; omega))) f_48 (by decide) (by decide)) e_53 (by omega) (inR_of (p := (48, 64)) (by decide) (by show 48 ≤ _; omega) (by show _ < 64; omega))) hP hD hS (lv_sub hl [0, 4, 5, 6, 7, 8, 9, 10] rfl)
                    · refine lv_iload hx hb dX7_hang_155 (lv_at hl 3 rfl) ?_
                      refine lv_istore (lv' := [(5, .int z68_8), (11, .long (Int32.toInt64 r_45)), (10, .int r_45), (9, .int (ga (K68 (48 + (z68_8).toNatClampNeg)) ((8 : Int32)).toNatClampNeg)), (8, .int z68_8), (6, .long z68_6), (0, .ref (a 0)), (1, .int x1), (2, .int x2), (3, .int x3), (4, .int x4)]) hx hb dX7_hang_157 hl (by decide) rfl (fun ls hl => ?_)
                      refine lv_lload hx hb dX7_hang_159 (lv_at hl 1 rfl) ?_
                      refine lv_lstore (lv' := [(6, .long (Int32.toInt64 r_45)), (5, .int z68_8), (11, .long (Int32.toInt64 r_45)), (10, .int r_45), (9, .int (ga (K68 (48 + (z68_8).toNatClampNeg)) ((8 : Int32)).toNatClampNeg)), (8, .int z68_8), (0, .ref (a 0)), (1, .int x1), (2, .int x2), (3, .int x3), (4, .int x4)]) hx hb dX7_hang_161 hl (by decide) rfl (fun ls hl => ?_)
                      refine lv_iinc (v := z68_8 + 1) (lv' := [(8, .int (z68_8 + 1)), (6, .long (Int32.toInt64 r_45)), (5, .int z68_8), (11, .long (Int32.toInt64 r_45)), (10, .int r_45), (9, .int (ga (K68 (48 + (z68_8).toNatClampNeg)) ((8 : Int32)).toNatClampNeg)), (0, .ref (a 0)), (1, .int x1), (2, .int x2), (3, .int x3), (4, .int x4)]) hx hb dX7_hang_163 hl (k := 5) rfl (by rfl) (by decide) rfl (fun ls hl => ?_)
                      refine lv_goto (tgt := 68) hx hb dX7_hang_166 (by decide) ?_
                      exact ih_68 _ (hd_68 ▸ mu_up 16 (rn_ltu (u' := 15) (Int32.not_le.mp c_37) hz68_8 (rn_nel (l' := 1) c_24 (fM_0_11 hT0) (rg_c (v := 0) (lo := 0) (hi := 0) (by decide)) (by decide)) (by decide)) (by decide)) C_52 (z68_8 + 1) (Int32.toInt64 r_45) z68_8 _ _ ls rfl (rg_w (rg_add (lo := 1) (hi := 16) (rn_ltu (u' := 15) (Int32.not_le.mp c_37) hz68_8 (rn_nel (l' := 1) c_24 (fM_0_11 hT0) (rg_c (v := 0) (lo := 0) (hi := 0) (by decide)) (by decide)) (by decide)) (rg_c (v := 1) (lo := 1) (hi := 1) (by decide)) (by decide)) (by decide)) (fun A hA => by have h1 := (hx_68 A hA); have h2 := absM_st (t := 1) t_36 h1 (by decide) (show (z68_8).toNatClampNeg < 16 from b_41) e_43; have h3 := absM_fr h2 t_44 (show fr [(15, 16)] [] C_42 C_46 from (fr_tr fr_rf f_48 (by decide) (by decide))) (by decide) (by decide) (by decide); have h4 := absM_st (t := 1) t_49 h3 (by decide) (show (z68_8).toNatClampNeg < 16 from b_51) e_53; rw [putA_back (show A 1 (z68_8).toNatClampNeg ((8 : Int32)).toNatClampNeg = ga (K68 (48 + (z68_8).toNatClampNeg)) ((8 : Int32)).toNatClampNeg from (h1.2.2 1 (by decide) (z68_8).toNatClampNeg (by rw [oh_nat (rg_w (lo := 0) (hi := 15) (rn_ltu (u' := 15) (Int32.not_le.mp c_37) hz68_8 (rn_nel (l' := 1) c_24 (fM_0_11 hT0) (rg_c (v := 0) (lo := 0) (hi := 0) (by decide)) (by decide)) (by decide)) (by decide)) (by decide)]; exact Int32.lt_iff_toInt_lt.mp (oh_lte (Int32.not_le.mp c_37) (hA.1 1 (by decide)))) 8 (by decide) (by unfold vis; omega)).symm)] at h4; exact h4) hT hF (fr_ste (fr_tr (fr_ste hLF_68 e_43 (by omega) (inR_of (p := (48, 64)) (by decide) (by show 48 ≤ _; omega) (by show _ < 64; omega))) f_48 (by decide) (by decide)) e_53 (by omega) (inR_of (p := (48, 64)) (by decide) (by show 48 ≤ _; omega) (by show _ < 64; omega))) hP hD hS (lv_sub hl [0, 1, 2, 6, 7, 8, 9, 10] rfl)
                · refine lv_ldc2 (v := 1000000000000) hx hb hown (htg _ q_1355) dX7_hang_130 ?_
                  refine lv_goto (tgt := 139) hx hb dX7_hang_133 (by decide) ?_
                  refine lv_lstore (lv' := [(11, .long 1000000000000), (10, .int r_45), (9, .int (ga (K68 (48 + (z68_8).toNatClampNeg)) ((8 : Int32)).toNatClampNeg)), (8, .int z68_8), (6, .long z68_6), (5, .int z68_5), (0, .ref (a 0)), (1, .int x1), (2, .int x2), (3, .int x3), (4, .int x4)]) hx hb dX7_hang_139 hl (by decide) rfl (fun ls hl => ?_)
                  refine lv_iload hx hb dX7_hang_141 (lv_at hl 5 rfl) ?_
                  refine lv_iconst (v := (-1)) hx hb dX7_hang_143 (by decide) ?_
                  refine lv_icmp_eq (tgt := 155) hx hb dX7_hang_144 (by decide) (fun (c_58 : z68_5 = (-1)) => ?_) (fun (c_58 : ¬ (z68_5 = (-1))) => ?_)
                  · refine lv_iload hx hb dX7_hang_155 (lv_at hl 3 rfl) ?_
                    refine lv_istore (lv' := [(5, .int z68_8), (11, .long 1000000000000), (10, .int r_45), (9, .int (ga (K68 (48 + (z68_8).toNatClampNeg)) ((8 : Int32)).toNatClampNeg)), (8, .int z68_8), (6, .long z68_6), (0, .ref (a 0)), (1, .int x1), (2, .int x2), (3, .int x3), (4, .int x4)]) hx hb dX7_hang_157 hl (by decide) rfl (fun ls hl => ?_)
                    refine lv_lload hx hb dX7_hang_159 (lv_at hl 1 rfl) ?_
                    refine lv_lstore (lv' := [(6, .long 1000000000000), (5, .int z68_8), (11, .long 1000000000000), (10, .int r_45), (9, .int (ga (K68 (48 + (z68_8).toNatClampNeg)) ((8 : Int32)).toNatClampNeg)), (8, .int z68_8), (0, .ref (a 0)), (1, .int x1), (2, .int x2), (3, .int x3), (4, .int x4)]) hx hb dX7_hang_161 hl (by decide) rfl (fun ls hl => ?_)
                    refine lv_iinc (v := z68_8 + 1) (lv' := [(8, .int (z68_8 + 1)), (6, .long 1000000000000), (5, .int z68_8), (11, .long 1000000000000), (10, .int r_45), (9, .int (ga (K68 (48 + (z68_8).toNatClampNeg)) ((8 : Int32)).toNatClampNeg)), (0, .ref (a 0)), (1, .int x1), (2, .int x2), (3, .int x3), (4, .int x4)]) hx hb dX7_hang_163 hl (k := 5) rfl (by rfl) (by decide) rfl (fun ls hl => ?_)
                    refine lv_goto (tgt := 68) hx hb dX7_hang_166 (by decide) ?_
                    exact ih_68 _ (hd_68 ▸ mu_up 16 (rn_ltu (u' := 15) (Int32.not_le.mp c_37) hz68_8 (rn_nel (l' := 1) c_24 (fM_0_11 hT0) (rg_c (v := 0) (lo := 0) (hi := 0) (by decide)) (by decide)) (by decide)) (by decide)) C_52 (z68_8 + 1) 1000000000000 z68_8 _ _ ls rfl (rg_w (rg_add (lo := 1) (hi := 16) (rn_ltu (u' := 15) (Int32.not_le.mp c_37) hz68_8 (rn_nel (l' := 1) c_24 (fM_0_11 hT0) (rg_c (v := 0) (lo := 0) (hi := 0) (by decide)) (by decide)) (by decide)) (rg_c (v := 1) (lo := 1) (hi := 1) (by decide)) (by decide)) (by decide)) (fun A hA => by have h1 := (hx_68 A hA); have h2 := absM_st (t := 1) t_36 h1 (by decide) (show (z68_8).toNatClampNeg < 16 from b_41) e_43; have h3 := absM_fr h2 t_44 (show fr [(15, 16)] [] C_42 C_46 from (fr_tr fr_rf f_48 (by decide) (by decide))) (by decide) (by decide) (by decide); have h4 := absM_st (t := 1) t_49 h3 (by decide) (show (z68_8).toNatClampNeg < 16 from b_51) e_53; rw [putA_back (show A 1 (z68_8).toNatClampNeg ((8 : Int32)).toNatClampNeg = ga (K68 (48 + (z68_8).toNatClampNeg)) ((8 : Int32)).toNatClampNeg from (h1.2.2 1 (by decide) (z68_8).toNatClampNeg (by rw [oh_nat (rg_w (lo := 0) (hi := 15) (rn_ltu (u' := 15) (Int32.not_le.mp c_37) hz68_8 (rn_nel (l' := 1) c_24 (fM_0_11 hT0) (rg_c (v := 0) (lo := 0) (hi := 0) (by decide)) (by decide)) (by decide)) (by decide)) (by decide)]; exact Int32.lt_iff_toInt_lt.mp (oh_lte (Int32.not_le.mp c_37) (hA.1 1 (by decide)))) 8 (by decide) (by unfold vis; omega)).symm)] at h4; exact h4) hT hF (fr_ste (fr_tr (fr_ste hLF_68 e_43 (by omega) (inR_of (p := (48, 64)) (by decide) (by show 48 ≤ _; omega) (by show _ < 64; omega))) f_48 (by decide) (by decide)) e_53 (by omega) (inR_of (p := (48, 64)) (by decide) (by show 48 ≤ _; omega) (by show _ < 64; omega))) hP hD hS (lv_sub hl [0, 1, 2, 6, 7, 8, 9, 10] rfl)
                  · refine lv_lload hx hb dX7_hang_147 (lv_at hl 0 rfl) ?_
                    refine lv_lload hx hb dX7_hang_149 (lv_at hl 4 rfl) ?_
                    refine W.lcmp hx hb dX7_hang_151 ?_
                    refine lv_if_le (tgt := 163) hx hb dX7_hang_152 (by decide) (fun (c_59 : (lg_cmp (1000000000000 : Int64) z68_6) ≤ 0) => ?_) (fun (c_59 : ¬ ((lg_cmp (1000000000000 : Int64) z68_6) ≤ 0)) => ?_)
                    · refine lv_iinc (v := z68_8 + 1) (lv' := [(8, .int (z68_8 + 1)), (11, .long 1000000000000), (10, .int r_45), (9, .int (ga (K68 (48 + (z68_8).toNatClampNeg)) ((8 : Int32)).toNatClampNeg)), (6, .long z68_6), (5, .int z68_5), (0, .ref (a 0)), (1, .int x1), (2, .int x2), (3, .int x3), (4, .int x4)]) hx hb dX7_hang_163 hl (k := 3) rfl (by rfl) (by decide) rfl (fun ls hl => ?_)
                      refine lv_goto (tgt := 68) hx hb dX7_hang_166 (by decide) ?_
                      exact ih_68 _ (hd_68 ▸ mu_up 16 (rn_ltu (u' := 15) (Int32.not_le.mp c_37) hz68_8 (rn_nel (l' := 1) c_24 (fM_0_11 hT0) (rg_c (v := 0) (lo := 0) (hi := 0) (by decide)) (by decide)) (by decide)) (by decide)) C_52 (z68_8 + 1) z68_6 z68_5 _ _ ls rfl (rg_w (rg_add (lo := 1) (hi := 16) (rn_ltu (u' := 15) (Int32.not_le.mp c_37) hz68_8 (rn_nel (l' := 1) c_24 (fM_0_11 hT0) (rg_c (v := 0) (lo := 0) (hi := 0) (by decide)) (by decide)) (by decide)) (rg_c (v := 1) (lo := 1) (hi := 1) (by decide)) (by decide)) (by decide)) (fun A hA => by have h1 := (hx_68 A hA); have h2 := absM_st (t := 1) t_36 h1 (by decide) (show (z68_8).toNatClampNeg < 16 from b_41) e_43; have h3 := absM_fr h2 t_44 (show fr [(15, 16)] [] C_42 C_46 from (fr_tr fr_rf f_48 (by decide) (by decide))) (by decide) (by decide) (by decide); have h4 := absM_st (t := 1) t_49 h3 (by decide) (show (z68_8).toNatClampNeg < 16 from b_51) e_53; rw [putA_back (show A 1 (z68_8).toNatClampNeg ((8 : Int32)).toNatClampNeg = ga (K68 (48 + (z68_8).toNatClampNeg)) ((8 : Int32)).toNatClampNeg from (h1.2.2 1 (by decide) (z68_8).toNatClampNeg (by rw [oh_nat (rg_w (lo := 0) (hi := 15) (rn_ltu (u' := 15) (Int32.not_le.mp c_37) hz68_8 (rn_nel (l' := 1) c_24 (fM_0_11 hT0) (rg_c (v := 0) (lo := 0) (hi := 0) (by decide)) (by decide)) (by decide)) (by decide)) (by decide)]; exact Int32.lt_iff_toInt_lt.mp (oh_lte (Int32.not_le.mp c_37) (hA.1 1 (by decide)))) 8 (by decide) (by unfold vis; omega)).symm)] at h4; exact h4) hT hF (fr_ste (fr_tr (fr_ste hLF_68 e_43 (by omega) (inR_of (p := (48, 64)) (by decide) (by show 48 ≤ _; omega) (by show _ < 64; omega))) f_48 (by decide) (by decide)) e_53 (by omega) (inR_of (p := (48, 64)) (by decide) (by show 48 ≤ _; omega) (by show _ < 64; omega))) hP hD hS (lv_sub hl [0, 4, 5, 6, 7, 8, 9, 10] rfl)
                    · refine lv_iload hx hb dX7_hang_155 (lv_at hl 3 rfl) ?_
                      refine lv_istore (lv' := [(5, .int z68_8), (11, .long 1000000000000), (10, .int r_45), (9, .int (ga (K68 (48 + (z68_8).toNatClampNeg)) ((8 : Int32)).toNatClampNeg)), (8, .int z68_8), (6, .long z68_6), (0, .ref (a 0)), (1, .int x1), (2, .int x2), (3, .int x3), (4, .int x4)]) hx hb dX7_hang_157 hl (by decide) rfl (fun ls hl => ?_)
                      refine lv_lload hx hb dX7_hang_159 (lv_at hl 1 rfl) ?_
                      refine lv_lstore (lv' := [(6, .long 1000000000000), (5, .int z68_8), (11, .long 1000000000000), (10, .int r_45), (9, .int (ga (K68 (48 + (z68_8).toNatClampNeg)) ((8 : Int32)).toNatClampNeg)), (8, .int z68_8), (0, .ref (a 0)), (1, .int x1), (2, .int x2), (3, .int x3), (4, .int x4)]) hx hb dX7_hang_161 hl (by decide) rfl (fun ls hl => ?_)
                      refine lv_iinc (v := z68_8 + 1) (lv' := [(8, .int (z68_8 + 1)), (6, .long 1000000000000), (5, .int z68_8), (11, .long 1000000000000), (10, .int r_45), (9, .int (ga (K68 (48 + (z68_8).toNatClampNeg)) ((8 : Int32)).toNatClampNeg)), (0, .ref (a 0)), (1, .int x1), (2, .int x2), (3, .int x3), (4, .int x4)]) hx hb dX7_hang_163 hl (k := 5) rfl (by rfl) (by decide) rfl (fun ls hl => ?_)
                      refine lv_goto (tgt := 68) hx hb dX7_hang_166 (by decide) ?_
                      exact ih_68 _ (hd_68 ▸ mu_up 16 (rn_ltu (u' := 15) (Int32.not_le.mp c_37) hz68_8 (rn_nel (l' := 1) c_24 (fM_0_11 hT0) (rg_c (v := 0) (lo := 0) (hi := 0) (by decide)) (by decide)) (by decide)) (by decide)) C_52 (z68_8 + 1) 1000000000000 z68_8 _ _ ls rfl (rg_w (rg_add (lo := 1) (hi := 16) (rn_ltu (u' := 15) (Int32.not_le.mp c_37) hz68_8 (rn_nel (l' := 1) c_24 (fM_0_11 hT0) (rg_c (v := 0) (lo := 0) (hi := 0) (by decide)) (by decide)) (by decide)) (rg_c (v := 1) (lo := 1) (hi := 1) (by decide)) (by decide)) (by decide)) (fun A hA => by have h1 := (hx_68 A hA); have h2 := absM_st (t := 1) t_36 h1 (by decide) (show (z68_8).toNatClampNeg < 16 from b_41) e_43; have h3 := absM_fr h2 t_44 (show fr [(15, 16)] [] C_42 C_46 from (fr_tr fr_rf f_48 (by decide) (by decide))) (by decide) (by decide) (by decide); have h4 := absM_st (t := 1) t_49 h3 (by decide) (show (z68_8).toNatClampNeg < 16 from b_51) e_53; rw [putA_back (show A 1 (z68_8).toNatClampNeg ((8 : Int32)).toNatClampNeg = ga (K68 (48 + (z68_8).toNatClampNeg)) ((8 : Int32)).toNatClampNeg from (h1.2.2 1 (by decide) (z68_8).toNatClampNeg (by rw [oh_nat (rg_w (lo := 0) (hi := 15) (rn_ltu (u' := 15) (Int32.not_le.mp c_37) hz68_8 (rn_nel (l' := 1) c_24 (fM_0_11 hT0) (rg_c (v := 0) (lo := 0) (hi := 0) (by decide)) (by decide)) (by decide)) (by decide)) (by decide)]; exact Int32.lt_iff_toInt_lt.mp (oh_lte (Int32.not_le.mp c_37) (hA.1 1 (by decide)))) 8 (by decide) (by unfold vis; omega)).symm)] at h4; exact h4) hT hF (fr_ste (fr_tr (fr_ste hLF_68 e_43 (by omega) (inR_of (p := (48, 64)) (by decide) (by show 48 ≤ _; omega) (by show _ < 64; omega))) f_48 (by decide) (by decide)) e_53 (by omega) (inR_of (p := (48, 64)) (by decide) (by show 48 ≤ _; omega) (by show _ < 64; omega))) hP hD hS (lv_sub hl [0, 1, 2, 6, 7, 8, 9, 10] rfl)
            exact L_68 _ C_31 0 0 (-1) _ _ ls rfl (rg_w (rg_c (v := 0) (lo := 0) (hi := 0) (by decide)) (by decide)) (fun A hA => by have h1 := hA; have h2 := absM_fr h1 hT0 (show fr [(15, 16)] [] C C_31 from (fr_tr fr_rf f_33 (by decide) (by decide))) (by decide) (by decide) (by decide); exact h2) hT hF fr_rf hP hD hS (lv_sub hl [0, 1, 2, 3, 4, 5, 6, 7] rfl)
          · refine lv_aload_n hx hb dX7_hang_52 rfl (lv_at hl 0 rfl) ?_
            refine lv_bipush (v := (-5)) hx hb dX7_hang_53 (by decide) ?_
            refine tm_V (As := [.int (-5)]) (rest := []) ⟨hx, hb, hml, hown, htg⟩ (c_X7_refuse l D E G _ a C_31 n hn hT ((-5) : Int32) (rg_w (rg_c (v := (-5)) (lo := (-5)) (hi := (-5)) (by decide)) (by decide))) (cwV 1 htg (oh_gV q_1071 q_1073 q_29 q_73 q_1074) rfl rfl rfl pdVX7_refuse ⟨Nat.le_of_ble_eq_true rfl, Nat.le_of_ble_eq_true rfl⟩) hK hP hD hG hS hA (va_recv hK hP (ci := 7) (q0 := 0) rfl (oh_wg (Nat.lt_of_lt_of_le (by decide) hn) (sM_0 hT))) rfl hl.1 rfl (Nat.le_of_ble_eq_true rfl) dX7_hang_55 ⟨Nat.le_of_ble_eq_true rfl, Nat.le_of_ble_eq_true rfl⟩ (fun r_60 C_61 H locs hq_62 hP hD hS => ?_)
            obtain ⟨hT, f_63, hq_62⟩ := hq_62
            have hF := fr_tr hF f_63 (by decide) (by decide)
            refine W.widen (k := 0) (n := 0) (Nat.le_refl _) (Nat.le_refl _) ?_
            have t_64 := hT
            rw [hQ]
            exact W.iret (v := r_60) hx hb hr (fun t ht hW => ⟨⟨r_60, C_61, rfl, ⟨hT, hF, ⟨⟨hR.1.fr hF (by decide), hR.2.fr hF (by decide)⟩, (fun A hA => by have h1 := hA; have h2 := absM_fr h1 hT0 (show fr [(8, 9), (15, 16)] [] C C_61 from (fr_tr (fr_tr fr_rf f_33 (by decide) (by decide)) f_63 (by decide) (by decide))) (by decide) (by decide) (by decide); exact h2)⟩⟩, ⟨by rw [ht]; exact hP, hD⟩⟩, hS.F ht⟩) hS.2.2 dX7_hang_58
      · have u_65 := hq_21.2.2 c_22
        refine lv_aload_n hx hb dX7_hang_24 rfl (lv_at hl 0 rfl) ?_
        refine lv_bipush (v := (-2)) hx hb dX7_hang_25 (by decide) ?_
        refine tm_V (As := [.int (-2)]) (rest := []) ⟨hx, hb, hml, hown, htg⟩ (c_X7_refuse l D E G _ a C n hn hT ((-2) : Int32) (rg_w (rg_c (v := (-2)) (lo := (-2)) (hi := (-2)) (by decide)) (by decide))) (cwV 1 htg (oh_gV q_1071 q_1073 q_29 q_73 q_1074) rfl rfl rfl pdVX7_refuse ⟨Nat.le_of_ble_eq_true rfl, Nat.le_of_ble_eq_true rfl⟩) hK hP hD hG hS hA (va_recv hK hP (ci := 7) (q0 := 0) rfl (oh_wg (Nat.lt_of_lt_of_le (by decide) hn) (sM_0 hT))) rfl hl.1 rfl (Nat.le_of_ble_eq_true rfl) dX7_hang_27 ⟨Nat.le_of_ble_eq_true rfl, Nat.le_of_ble_eq_true rfl⟩ (fun r_66 C_67 H locs hq_68 hP hD hS => ?_)
        obtain ⟨hT, f_69, hq_68⟩ := hq_68
        have hF := fr_tr hF f_69 (by decide) (by decide)
        refine W.widen (k := 0) (n := 0) (Nat.le_refl _) (Nat.le_refl _) ?_
        have t_70 := hT
        rw [hQ]
        exact W.iret (v := r_66) hx hb hr (fun t ht hW => ⟨⟨r_66, C_67, rfl, ⟨hT, hF, ⟨⟨hR.1.fr hF (by decide), hR.2.fr hF (by decide)⟩, (fun A hA => by have h1 := hA; have h2 := absM_fr h1 hT0 (show fr [(8, 9)] [] C C_67 from (fr_tr fr_rf f_69 (by decide) (by decide))) (by decide) (by decide) (by decide); exact h2)⟩⟩, ⟨by rw [ht]; exact hP, hD⟩⟩, hS.F ht⟩) hS.2.2 dX7_hang_30

set_option maxHeartbeats 4000000 in
set_option maxRecDepth 100000 in
theorem e_X7_step (l : Launch) (D : va_G) (E : Nat → ClassId) (G : Nat → Nat) (sz : Nat) (a : Nat → Nat) (C : Nat → va_E) (n : Nat) (hn : 74 ≤ n) (hT : TyM a E C) (hR : RelM C) : Met l yX7_step (oh_w yX7_step cX7_step 7 (some .int)) ({ frames := 6, cells := 0, slots := 0, locals := 152 }) (oh_Pm D E G [.ref (a 0)] (oh_W n a C) sz) (va_Qi (fun r (u : Nat → va_E) => TyM a E u ∧ fr [(8, 9), (14, 15), (15, 16), (48, 64)] [19] C u ∧ (RelM u) ∧ (∀ A : LA, absM C A → absM u A)) (oh_B D (va_A (oh_W n a C) sz) (fun u => oh_W n a u)) (va_A (oh_W n a C) sz)) 0 0 (va_A (oh_W n a C) sz) := by
  refine Met.ofW (cc := cX7_step) (maxL := 7) (ret := (some .int)) (by decide) rfl ?_
  intro p e s m args below meth c s₁ B hml hv
  obtain ⟨rfl, hsz, hP, hK, hD0, hG⟩ := hv
  have hx := B.exec
  have hb := B.bytes
  have hr := B.returns
  have hts := atoms_spec (ws := (oh_w yX7_step cX7_step 7 (some .int))) B.pre
  have htg : ∀ w ∈ oh_t, w.before _ s = true := fun w h => hts w (List.mem_cons_of_mem _ h)
  have hown : s.vm.findClass RX7 = some m.cls := findClass_of_methodNamed B.named
  have hlocks := B.notSynchronized
  have hT0 := hT
  subst hsz
  have hD := hD0.self (sz := s.heap.size)
  generalize hAe : va_A (oh_W n a C) s.heap.size = A at hD hG ⊢
  have hA : ∀ q : Nat, s.heap.size ≤ q → A q := fun q h => by rw [← hAe]; exact Or.inr h
  have hS : va_S A s.heap s.heap [] := va_S.rf
  have hF : fr [(8, 9), (14, 15), (15, 16), (48, 64)] [19] C C := fr_rf
  have hl := lv_entry ([.ref (a 0)]) (n := 7) (Nat.le_of_ble_eq_true rfl)
  rw [lg_entry_eq]
  generalize (lg_sl ([.ref (a 0)]) ++ List.replicate (7 - (lg_sl ([.ref (a 0)])).length) Slot.unset).toArray = ls at hl ⊢
  have hl : lv_has ls 7 [(0, .ref (a 0))] := hl
  refine oh_genQ (fun Q hQ => ?_)
  refine lv_aload_n hx hb dX7_step_0 rfl (lv_at hl 0 rfl) ?_
  refine va_get (D := D) (ci := 7) (v := .ref (a 14)) (C := RX7) (T := TX7) (N := 29) hx hb htg ig_7 hown hK hP 0 (oh_wg (Nat.lt_of_lt_of_le (by decide) hn) (sM_0 hT)) rfl 18 (by decide) (htg _ q_991) (fun _ h9 => h9) rfl dX7_step_1 ?_
  refine lv_iconst (v := 0) hx hb dX7_step_4 (by decide) ?_
  refine th_iald hx hb hK hP 14 (Nat.lt_of_lt_of_le (by decide) hn) (sM_14 hT) (rg_in (rg_c (v := 0) (lo := 0) (hi := 0) (by decide)) (by decide)) dX7_step_5 ?_
  refine lv_if_eq (tgt := 24) hx hb dX7_step_6 (by decide) (fun (c_1 : (ga (C 14) ((0 : Int32)).toNatClampNeg) = 0) => ?_) (fun (c_1 : ¬ ((ga (C 14) ((0 : Int32)).toNatClampNeg) = 0)) => ?_)
  · refine lv_aload_n hx hb dX7_step_24 rfl (lv_at hl 0 rfl) ?_
    refine lv_bipush (v := (-5)) hx hb dX7_step_25 (by decide) ?_
    refine tm_V (As := [.int (-5)]) (rest := []) ⟨hx, hb, hml, hown, htg⟩ (c_X7_refuse l D E G _ a C n hn hT ((-5) : Int32) (rg_w (rg_c (v := (-5)) (lo := (-5)) (hi := (-5)) (by decide)) (by decide))) (cwV 1 htg (oh_gV q_1071 q_1073 q_29 q_73 q_1074) rfl rfl rfl pdVX7_refuse ⟨Nat.le_of_ble_eq_true rfl, Nat.le_of_ble_eq_true rfl⟩) hK hP hD hG hS hA (va_recv hK hP (ci := 7) (q0 := 0) rfl (oh_wg (Nat.lt_of_lt_of_le (by decide) hn) (sM_0 hT))) rfl hl.1 rfl (Nat.le_of_ble_eq_true rfl) dX7_step_27 ⟨Nat.le_of_ble_eq_true rfl, Nat.le_of_ble_eq_true rfl⟩ (fun r_2 C_3 H locs hq_4 hP hD hS => ?_)
    obtain ⟨hT, f_5, hq_4⟩ := hq_4
    have hF := fr_tr hF f_5 (by decide) (by decide)
    refine W.widen (k := 0) (n := 0) (Nat.le_refl _) (Nat.le_refl _) ?_
    have t_6 := hT
    rw [hQ]
    exact W.iret (v := r_2) hx hb hr (fun t ht hW => ⟨⟨r_2, C_3, rfl, ⟨hT, hF, ⟨⟨(RelW.fr hR.1 f_5 (by decide)), hR.2.fr hF (by decide)⟩, (fun A hA => by have h1 := hA; have h2 := absM_fr h1 hT0 (show fr [(8, 9)] [] C C_3 from (fr_tr fr_rf f_5 (by decide) (by decide))) (by decide) (by decide) (by decide); exact h2)⟩⟩, ⟨by rw [ht]; exact hP, hD⟩⟩, hS.F ht⟩) hS.2.2 dX7_step_30
  · refine lv_aload_n hx hb dX7_step_9 rfl (lv_at hl 0 rfl) ?_
    refine va_get (D := D) (ci := 7) (v := .ref (a 14)) (C := RX7) (T := TX7) (N := 29) hx hb htg ig_7 hown hK hP 0 (oh_wg (Nat.lt_of_lt_of_le (by decide) hn) (sM_0 hT)) rfl 18 (by decide) (htg _ q_991) (fun _ h9 => h9) rfl dX7_step_10 ?_
    refine lv_iconst (v := 3) hx hb dX7_step_13 (by decide) ?_
    refine th_iald hx hb hK hP 14 (Nat.lt_of_lt_of_le (by decide) hn) (sM_14 hT) (rg_in (rg_c (v := 3) (lo := 3) (hi := 3) (by decide)) (by decide)) dX7_step_14 ?_
    refine lv_aload_n hx hb dX7_step_15 rfl (lv_at hl 0 rfl) ?_
    refine va_get (D := D) (ci := 7) (v := .ref (a 14)) (C := RX7) (T := TX7) (N := 29) hx hb htg ig_7 hown hK hP 0 (oh_wg (Nat.lt_of_lt_of_le (by decide) hn) (sM_0 hT)) rfl 18 (by decide) (htg _ q_991) (fun _ h9 => h9) rfl dX7_step_16 ?_
    refine lv_iconst (v := 4) hx hb dX7_step_19 (by decide) ?_
    refine th_iald hx hb hK hP 14 (Nat.lt_of_lt_of_le (by decide) hn) (sM_14 hT) (rg_in (rg_c (v := 4) (lo := 4) (hi := 4) (by decide)) (by decide)) dX7_step_20 ?_
    refine lv_icmp_ne (tgt := 31) hx hb dX7_step_21 (by decide) (fun (c_7 : ¬ ((ga (C 14) ((3 : Int32)).toNatClampNeg) = (ga (C 14) ((4 : Int32)).toNatClampNeg))) => ?_) (fun (c_7 : (ga (C 14) ((3 : Int32)).toNatClampNeg) = (ga (C 14) ((4 : Int32)).toNatClampNeg)) => ?_)
    · refine lv_aload_n hx hb dX7_step_31 rfl (lv_at hl 0 rfl) ?_
      refine va_get (D := D) (ci := 7) (v := .ref (a 14)) (C := RX7) (T := TX7) (N := 29) hx hb htg ig_7 hown hK hP 0 (oh_wg (Nat.lt_of_lt_of_le (by decide) hn) (sM_0 hT)) rfl 18 (by decide) (htg _ q_991) (fun _ h9 => h9) rfl dX7_step_32 ?_
      refine lv_iconst (v := 1) hx hb dX7_step_35 (by decide) ?_
      refine th_iald hx hb hK hP 14 (Nat.lt_of_lt_of_le (by decide) hn) (sM_14 hT) (rg_in (rg_c (v := 1) (lo := 1) (hi := 1) (by decide)) (by decide)) dX7_step_36 ?_
      refine lv_istore_n (lv' := [(1, .int (ga (C 14) ((1 : Int32)).toNatClampNeg)), (0, .ref (a 0))]) hx hb dX7_step_37 rfl hl (by decide) rfl (fun ls hl => ?_)
      refine lv_aload_n hx hb dX7_step_38 rfl (lv_at hl 1 rfl) ?_
      refine va_get (D := D) (ci := 7) (v := .ref (a 14)) (C := RX7) (T := TX7) (N := 29) hx hb htg ig_7 hown hK hP 0 (oh_wg (Nat.lt_of_lt_of_le (by decide) hn) (sM_0 hT)) rfl 18 (by decide) (htg _ q_991) (fun _ h9 => h9) rfl dX7_step_39 ?_
      refine lv_iconst (v := 2) hx hb dX7_step_42 (by decide) ?_
      refine th_iald hx hb hK hP 14 (Nat.lt_of_lt_of_le (by decide) hn) (sM_14 hT) (rg_in (rg_c (v := 2) (lo := 2) (hi := 2) (by decide)) (by decide)) dX7_step_43 ?_
      refine lv_istore_n (lv' := [(2, .int (ga (C 14) ((2 : Int32)).toNatClampNeg)), (1, .int (ga (C 14) ((1 : Int32)).toNatClampNeg)), (0, .ref (a 0))]) hx hb dX7_step_44 rfl hl (by decide) rfl (fun ls hl => ?_)
      refine lv_aload_n hx hb dX7_step_45 rfl (lv_at hl 2 rfl) ?_
      refine lv_iload_n hx hb dX7_step_46 rfl (lv_at hl 1 rfl) ?_
      refine lv_iload_n hx hb dX7_step_47 rfl (lv_at hl 0 rfl) ?_
      refine lv_aload_n hx hb dX7_step_48 rfl (lv_at hl 2 rfl) ?_
      refine va_get (D := D) (ci := 7) (v := .ref (a 14)) (C := RX7) (T := TX7) (N := 29) hx hb htg ig_7 hown hK hP 0 (oh_wg (Nat.lt_of_lt_of_le (by decide) hn) (sM_0 hT)) rfl 18 (by decide) (htg _ q_991) (fun _ h9 => h9) rfl dX7_step_49 ?_
      refine lv_iconst (v := 4) hx hb dX7_step_52 (by decide) ?_
      refine th_iald hx hb hK hP 14 (Nat.lt_of_lt_of_le (by decide) hn) (sM_14 hT) (rg_in (rg_c (v := 4) (lo := 4) (hi := 4) (by decide)) (by decide)) dX7_step_53 ?_
      refine lv_iconst (v := 1) hx hb dX7_step_54 (by decide) ?_
      refine tm_Vv (As := [.int (ga (C 14) ((1 : Int32)).toNatClampNeg), .int (ga (C 14) ((2 : Int32)).toNatClampNeg), .int (ga (C 14) ((4 : Int32)).toNatClampNeg), .int 1]) (rest := []) ⟨hx, hb, hml, hown, htg⟩ (c_X7_findFar l D E G _ a C n hn hT (ga (C 14) ((1 : Int32)).toNatClampNeg) (ga (C 14) ((2 : Int32)).toNatClampNeg) (ga (C 14) ((4 : Int32)).toNatClampNeg) (1 : Int32) (rg_w (tA_rdc (lo := 0) (hi := 4) (tM_14 hT0) (rg_in (rg_c (v := 1) (lo := 1) (hi := 1) (by decide)) (by decide)) (show _ = 1 by decide) (by decide)) (by decide)) (rg_w (tA_rdc (lo := 0) (hi := 15) (tM_14 hT0) (rg_in (rg_c (v := 4) (lo := 4) (hi := 4) (by decide)) (by decide)) (show _ = 4 by decide) (by decide)) (by decide)) (oh_posu hR.1 hT0 c_1)) (cwV 4 htg (oh_gV q_1351 q_1353 q_60 q_73 q_1354) rfl rfl rfl pdVX7_findFar ⟨Nat.le_of_ble_eq_true rfl, Nat.le_of_ble_eq_true rfl⟩) hK hP hD hG hS hA (va_recv hK hP (ci := 7) (q0 := 0) rfl (oh_wg (Nat.lt_of_lt_of_le (by decide) hn) (sM_0 hT))) rfl hl.1 rfl (Nat.le_of_ble_eq_true rfl) dX7_step_55 ⟨Nat.le_of_ble_eq_true rfl, Nat.le_of_ble_eq_true rfl⟩ (fun C_9 H locs hq_10 hP hD hS => ?_)
      obtain ⟨hT, f_11, hq_10⟩ := hq_10
      have hF := fr_tr hF f_11 (by decide) (by decide)
      refine W.widen (k := 0) (n := 0) (Nat.le_refl _) (Nat.le_refl _) ?_
      have t_12 := hT
      refine lv_iconst (v := 0) hx hb dX7_step_58 (by decide) ?_
      refine lv_istore_n (lv' := [(3, .int 0), (2, .int (ga (C 14) ((2 : Int32)).toNatClampNeg)), (1, .int (ga (C 14) ((1 : Int32)).toNatClampNeg)), (0, .ref (a 0))]) hx hb dX7_step_59 rfl hl (by decide) rfl (fun ls hl => ?_)
      have L_60 : ∀ (d : Nat) (K60 : Nat → va_E) (z60_3 : Int32) (H : Heap) (locs : List Loc) (ls : Array Slot), (24 - z60_3.toInt).toNat = d → rg z60_3 0 24 → (∀ A : LA, absM C A → absM K60 A) → TyM a E K60 → fr [(8, 9), (14, 15), (15, 16), (48, 64)] [19] C K60 → fr [] [] C_9 K60 → va_P D vwCl (oh_W n a K60) H → va_D A (oh_W n a K60) → va_S A s.heap H locs → lv_has ls 7 [(3, .int z60_3), (2, .int (ga (C 14) ((2 : Int32)).toNatClampNeg)), (1, .int (ga (C 14) ((1 : Int32)).toNatClampNeg)), (0, .ref (a 0))] → W p l e ({ frames := 6, cells := 0, slots := 0, locals := 152 }) s m (([.ref (a 0)] : List Value).toArray) below meth c H locs 0 0 Q (F0 m 60 ls []) := by
        intro d
        induction d using Nat.strongRecOn with
        | ind d ih_60 =>
        intro K60 z60_3 H locs ls hd_60 hz60_3 hx_60 hT hF hLF_60 hP hD hS hl
        have t_13 := hT
        refine lv_iload_n hx hb dX7_step_60 rfl (lv_at hl 0 rfl) ?_
        refine lv_aload_n hx hb dX7_step_61 rfl (lv_at hl 3 rfl) ?_
        refine va_get (D := D) (ci := 7) (v := .int (gi (C 0) 9)) (C := RX7) (T := TX7) (N := 29) hx hb htg ig_7 hown hK hP 0 (oh_wg (Nat.lt_of_lt_of_le (by decide) hn) (sM_0 hT)) rfl 9 (by decide) (htg _ q_982) (fun _ h9 => h9) (oh_fv (c := K60 0) (j := 9) rfl (Eq.trans (congrArg vi (hLF_60.2 9 (by decide))) (congrArg vi (f_11.2 9 (by decide))))) dX7_step_62 ?_
        refine lv_icmp_ge (tgt := 326) hx hb dX7_step_65 (by decide) (fun (c_14 : (gi (C 0) 9) ≤ z60_3) => ?_) (fun (c_14 : ¬ ((gi (C 0) 9) ≤ z60_3)) => ?_)
        · refine lv_aload_n hx hb dX7_step_326 rfl (lv_at hl 3 rfl) ?_
          refine lv_bipush (v := (-5)) hx hb dX7_step_327 (by decide) ?_
          refine tm_V (As := [.int (-5)]) (rest := []) ⟨hx, hb, hml, hown, htg⟩ (c_X7_refuse l D E G _ a K60 n hn hT ((-5) : Int32) (rg_w (rg_c (v := (-5)) (lo := (-5)) (hi := (-5)) (by decide)) (by decide))) (cwV 1 htg (oh_gV q_1071 q_1073 q_29 q_73 q_1074) rfl rfl rfl pdVX7_refuse ⟨Nat.le_of_ble_eq_true rfl, Nat.le_of_ble_eq_true rfl⟩) hK hP hD hG hS hA (va_recv hK hP (ci := 7) (q0 := 0) rfl (oh_wg (Nat.lt_of_lt_of_le (by decide) hn) (sM_0 hT))) rfl hl.1 rfl (Nat.le_of_ble_eq_true rfl) dX7_step_329 ⟨Nat.le_of_ble_eq_true rfl, Nat.le_of_ble_eq_true rfl⟩ (fun r_15 C_16 H locs hq_17 hP hD hS => ?_)
          obtain ⟨hT, f_18, hq_17⟩ := hq_17
          have hF := fr_tr hF f_18 (by decide) (by decide)
          refine W.widen (k := 0) (n := 0) (Nat.le_refl _) (Nat.le_refl _) ?_
          have t_19 := hT
          rw [hQ]
          exact W.iret (v := r_15) hx hb hr (fun t ht hW => ⟨⟨r_15, C_16, rfl, ⟨hT, hF, ⟨⟨(RelW.fr (RelW.fr (RelW.fr hR.1 f_11 (by decide)) hLF_60 (by decide)) f_18 (by decide)), hR.2.fr hF (by decide)⟩, (fun A hA => by have h1 := (hx_60 A hA); have h2 := absM_fr h1 t_13 (show fr [(8, 9)] [] K60 C_16 from (fr_tr fr_rf f_18 (by decide) (by decide))) (by decide) (by decide) (by decide); exact h2)⟩⟩, ⟨by rw [ht]; exact hP, hD⟩⟩, hS.F ht⟩) hS.2.2 dX7_step_332
        · refine lv_aload_n hx hb dX7_step_68 rfl (lv_at hl 3 rfl) ?_
          refine va_get (D := D) (ci := 7) (v := .ref (a 15)) (C := RX7) (T := TX7) (N := 29) hx hb htg ig_7 hown hK hP 0 (oh_wg (Nat.lt_of_lt_of_le (by decide) hn) (sM_0 hT)) rfl 27 (by decide) (htg _ q_1000) (fun _ h9 => h9) rfl dX7_step_69 ?_
          refine lv_aload_n hx hb dX7_step_72 rfl (lv_at hl 3 rfl) ?_
          refine va_get (D := D) (ci := 7) (v := .ref (a 14)) (C := RX7) (T := TX7) (N := 29) hx hb htg ig_7 hown hK hP 0 (oh_wg (Nat.lt_of_lt_of_le (by decide) hn) (sM_0 hT)) rfl 18 (by decide) (htg _ q_991) (fun _ h9 => h9) rfl dX7_step_73 ?_
          refine lv_iconst (v := 3) hx hb dX7_step_76 (by decide) ?_
          refine th_iald hx hb hK hP 14 (Nat.lt_of_lt_of_le (by decide) hn) (Eq.trans (Eq.trans (hLF_60.1 14 rfl (by decide)) (f_11.1 14 rfl (by decide))) (sM_14 hT0)) (rg_in (rg_c (v := 3) (lo := 3) (hi := 3) (by decide)) (by decide)) dX7_step_77 ?_
          have n_20 : vp_in (ga (C 14) ((3 : Int32)).toNatClampNeg) 16 := (rg_in (tA_rdc (lo := 0) (hi := 15) (tM_14 hT0) (rg_in (rg_c (v := 3) (lo := 3) (hi := 3) (by decide)) (by decide)) (show _ = 3 by decide) (by decide)) (by decide))
          refine th_lald hx hb hK hP 15 (Nat.lt_of_lt_of_le (by decide) hn) (Eq.trans (hLF_60.1 15 rfl (by decide)) (sM_15 t_12)) n_20 dX7_step_78 ?_
          refine lv_ldc2 (v := 1000000000000) hx hb hown (htg _ q_1355) dX7_step_79 ?_
          refine W.lcmp hx hb dX7_step_82 ?_
          refine lv_if_ge (tgt := 326) hx hb dX7_step_83 (by decide) (fun (c_21 : (0 : Int32) ≤ (lg_cmp (gb (C_9 15) (ga (C 14) ((3 : Int32)).toNatClampNeg).toNatClampNeg) 1000000000000)) => ?_) (fun (c_21 : ¬ ((0 : Int32) ≤ (lg_cmp (gb (C_9 15) (ga (C 14) ((3 : Int32)).toNatClampNeg).toNatClampNeg) 1000000000000))) => ?_)
          · refine lv_aload_n hx hb dX7_step_326 rfl (lv_at hl 3 rfl) ?_
            refine lv_bipush (v := (-5)) hx hb dX7_step_327 (by decide) ?_
            refine tm_V (As := [.int (-5)]) (rest := []) ⟨hx, hb, hml, hown, htg⟩ (c_X7_refuse l D E G _ a K60 n hn hT ((-5) : Int32) (rg_w (rg_c (v := (-5)) (lo := (-5)) (hi := (-5)) (by decide)) (by decide))) (cwV 1 htg (oh_gV q_1071 q_1073 q_29 q_73 q_1074) rfl rfl rfl pdVX7_refuse ⟨Nat.le_of_ble_eq_true rfl, Nat.le_of_ble_eq_true rfl⟩) hK hP hD hG hS hA (va_recv hK hP (ci := 7) (q0 := 0) rfl (oh_wg (Nat.lt_of_lt_of_le (by decide) hn) (sM_0 hT))) rfl hl.1 rfl (Nat.le_of_ble_eq_true rfl) dX7_step_329 ⟨Nat.le_of_ble_eq_true rfl, Nat.le_of_ble_eq_true rfl⟩ (fun r_22 C_23 H locs hq_24 hP hD hS => ?_)
            obtain ⟨hT, f_25, hq_24⟩ := hq_24
            have hF := fr_tr hF f_25 (by decide) (by decide)
            refine W.widen (k := 0) (n := 0) (Nat.le_refl _) (Nat.le_refl _) ?_
            have t_26 := hT
            rw [hQ]
            exact W.iret (v := r_22) hx hb hr (fun t ht hW => ⟨⟨r_22, C_23, rfl, ⟨hT, hF, ⟨⟨(RelW.fr (RelW.fr (RelW.fr hR.1 f_11 (by decide)) hLF_60 (by decide)) f_25 (by decide)), hR.2.fr hF (by decide)⟩, (fun A hA => by have h1 := (hx_60 A hA); have h2 := absM_fr h1 t_13 (show fr [(8, 9)] [] K60 C_23 from (fr_tr fr_rf f_25 (by decide) (by decide))) (by decide) (by decide) (by decide); exact h2)⟩⟩, ⟨by rw [ht]; exact hP, hD⟩⟩, hS.F ht⟩) hS.2.2 dX7_step_332
          · refine lv_aload_n hx hb dX7_step_86 rfl (lv_at hl 3 rfl) ?_
            refine va_get (D := D) (ci := 7) (v := .ref (a 9)) (C := RX7) (T := TX7) (N := 29) hx hb htg ig_7 hown hK hP 0 (oh_wg (Nat.lt_of_lt_of_le (by decide) hn) (sM_0 hT)) rfl 10 (by decide) (htg _ q_983) (fun _ h9 => h9) rfl dX7_step_87 ?_
            refine lv_iload_n hx hb dX7_step_90 rfl (lv_at hl 0 rfl) ?_
            have n_27 : vp_in z60_3 24 := (rg_in (rn_ltu (u' := 23) (Int32.not_le.mp c_14) hz60_3 (fM_0_9 hT0) (by decide)) (by decide))
            have b_28 : (z60_3).toNatClampNeg < 24 := vp_lt n_27
            refine th_aald hx hb hK hP 9 2 (Nat.lt_of_lt_of_le (by decide) hn) (sM_9 hT) rfl n_27 dX7_step_91 ?_
            refine lv_iconst (v := 0) hx hb dX7_step_92 (by decide) ?_
            refine th_iald hx hb hK hP (24 + (z60_3).toNatClampNeg) (lt_blk b_28 hn (by decide)) (Eq.trans (Eq.trans (hLF_60.1 (24 + (z60_3).toNatClampNeg) (by have h9 := b_28; exact inR_out h9 (by decide)) (by omega)) (f_11.1 (24 + (z60_3).toNatClampNeg) (by have h9 := b_28; exact inR_out h9 (by decide)) (by omega))) (hT0.broad b_28).1) (rg_in (rg_c (v := 0) (lo := 0) (hi := 0) (by decide)) (by decide)) dX7_step_93 ?_
            refine lv_aload_n hx hb dX7_step_94 rfl (lv_at hl 3 rfl) ?_
            refine va_get (D := D) (ci := 7) (v := .ref (a 14)) (C := RX7) (T := TX7) (N := 29) hx hb htg ig_7 hown hK hP 0 (oh_wg (Nat.lt_of_lt_of_le (by decide) hn) (sM_0 hT)) rfl 18 (by decide) (htg _ q_991) (fun _ h9 => h9) rfl dX7_step_95 ?_
            refine lv_iconst (v := 3) hx hb dX7_step_98 (by decide) ?_
            refine th_iald hx hb hK hP 14 (Nat.lt_of_lt_of_le (by decide) hn) (Eq.trans (Eq.trans (hLF_60.1 14 rfl (by decide)) (f_11.1 14 rfl (by decide))) (sM_14 hT0)) (rg_in (rg_c (v := 3) (lo := 3) (hi := 3) (by decide)) (by decide)) dX7_step_99 ?_
            refine lv_icmp_eq (tgt := 120) hx hb dX7_step_100 (by decide) (fun (c_29 : (ga (C (24 + (z60_3).toNatClampNeg)) ((0 : Int32)).toNatClampNeg) = (ga (C 14) ((3 : Int32)).toNatClampNeg)) => ?_) (fun (c_29 : ¬ ((ga (C (24 + (z60_3).toNatClampNeg)) ((0 : Int32)).toNatClampNeg) = (ga (C 14) ((3 : Int32)).toNatClampNeg))) => ?_)
            · refine lv_iconst (v := 1) hx hb dX7_step_120 (by decide) ?_
              refine lv_goto (tgt := 125) hx hb dX7_step_121 (by decide) ?_
              refine lv_istore (lv' := [(4, .int 1), (3, .int z60_3), (2, .int (ga (C 14) ((2 : Int32)).toNatClampNeg)), (1, .int (ga (C 14) ((1 : Int32)).toNatClampNeg)), (0, .ref (a 0))]) hx hb dX7_step_125 hl (by decide) rfl (fun ls hl => ?_)
              refine lv_aload_n hx hb dX7_step_127 rfl (lv_at hl 4 rfl) ?_
              refine va_get (D := D) (ci := 7) (v := .ref (a 9)) (C := RX7) (T := TX7) (N := 29) hx hb htg ig_7 hown hK hP 0 (oh_wg (Nat.lt_of_lt_of_le (by decide) hn) (sM_0 hT)) rfl 10 (by decide) (htg _ q_983) (fun _ h9 => h9) rfl dX7_step_128 ?_
              refine lv_iload_n hx hb dX7_step_131 rfl (lv_at hl 1 rfl) ?_
              have n_30 : vp_in z60_3 24 := (rg_in (rn_ltu (u' := 23) (Int32.not_le.mp c_14) hz60_3 (fM_0_9 hT0) (by decide)) (by decide))
              have b_31 : (z60_3).toNatClampNeg < 24 := vp_lt n_30
              refine th_aald hx hb hK hP 9 2 (Nat.lt_of_lt_of_le (by decide) hn) (sM_9 hT) rfl n_30 dX7_step_132 ?_
              refine lv_iconst (v := 0) hx hb dX7_step_133 (by decide) ?_
              refine th_iald hx hb hK hP (24 + (z60_3).toNatClampNeg) (lt_blk b_31 hn (by decide)) (Eq.trans (Eq.trans (hLF_60.1 (24 + (z60_3).toNatClampNeg) (by have h9 := b_31; exact inR_out h9 (by decide)) (by omega)) (f_11.1 (24 + (z60_3).toNatClampNeg) (by have h9 := b_31; exact inR_out h9 (by decide)) (by omega))) (hT0.broad b_31).1) (rg_in (rg_c (v := 0) (lo := 0) (hi := 0) (by decide)) (by decide)) dX7_step_134 ?_
              refine lv_aload_n hx hb dX7_step_135 rfl (lv_at hl 4 rfl) ?_
              refine va_get (D := D) (ci := 7) (v := .ref (a 14)) (C := RX7) (T := TX7) (N := 29) hx hb htg ig_7 hown hK hP 0 (oh_wg (Nat.lt_of_lt_of_le (by decide) hn) (sM_0 hT)) rfl 18 (by decide) (htg _ q_991) (fun _ h9 => h9) rfl dX7_step_136 ?_
              refine lv_iconst (v := 3) hx hb dX7_step_139 (by decide) ?_
              refine th_iald hx hb hK hP 14 (Nat.lt_of_lt_of_le (by decide) hn) (Eq.trans (Eq.trans (hLF_60.1 14 rfl (by decide)) (f_11.1 14 rfl (by decide))) (sM_14 hT0)) (rg_in (rg_c (v := 3) (lo := 3) (hi := 3) (by decide)) (by decide)) dX7_step_140 ?_
              refine lv_icmp_ne (tgt := 155) hx hb dX7_step_141 (by decide) (fun (c_32 : ¬ ((ga (C (24 + (z60_3).toNatClampNeg)) ((0 : Int32)).toNatClampNeg) = (ga (C 14) ((3 : Int32)).toNatClampNeg))) => ?_) (fun (c_32 : (ga (C (24 + (z60_3).toNatClampNeg)) ((0 : Int32)).toNatClampNeg) = (ga (C 14) ((3 : Int32)).toNatClampNeg)) => ?_)
              · refine lv_aload_n hx hb dX7_step_155 rfl (lv_at hl 4 rfl) ?_
                refine va_get (D := D) (ci := 7) (v := .ref (a 9)) (C := RX7) (T := TX7) (N := 29) hx hb htg ig_7 hown hK hP 0 (oh_wg (Nat.lt_of_lt_of_le (by decide) hn) (sM_0 hT)) rfl 10 (by decide) (htg _ q_983) (fun _ h9 => h9) rfl dX7_step_156 ?_
                refine lv_iload_n hx hb dX7_step_159 rfl (lv_at hl 1 rfl) ?_
                have n_33 : vp_in z60_3 24 := (rg_in (rn_ltu (u' := 23) (Int32.not_le.mp c_14) hz60_3 (fM_0_9 hT0) (by decide)) (by decide))
                have b_34 : (z60_3).toNatClampNeg < 24 := vp_lt n_33
                refine th_aald hx hb hK hP 9 2 (Nat.lt_of_lt_of_le (by decide) hn) (sM_9 hT) rfl n_33 dX7_step_160 ?_
                refine lv_iconst (v := 0) hx hb dX7_step_161 (by decide) ?_
                refine th_iald hx hb hK hP (24 + (z60_3).toNatClampNeg) (lt_blk b_34 hn (by decide)) (Eq.trans (Eq.trans (hLF_60.1 (24 + (z60_3).toNatClampNeg) (by have h9 := b_34; exact inR_out h9 (by decide)) (by omega)) (f_11.1 (24 + (z60_3).toNatClampNeg) (by have h9 := b_34; exact inR_out h9 (by decide)) (by omega))) (hT0.broad b_34).1) (rg_in (rg_c (v := 0) (lo := 0) (hi := 0) (by decide)) (by decide)) dX7_step_162 ?_
                refine lv_istore (lv' := [(5, .int (ga (C (24 + (z60_3).toNatClampNeg)) ((0 : Int32)).toNatClampNeg)), (4, .int 1), (3, .int z60_3), (2, .int (ga (C 14) ((2 : Int32)).toNatClampNeg)), (1, .int (ga (C 14) ((1 : Int32)).toNatClampNeg)), (0, .ref (a 0))]) hx hb dX7_step_163 hl (by decide) rfl (fun ls hl => ?_)
                refine lv_iload hx hb dX7_step_165 (lv_at hl 1 rfl) ?_
                refine lv_if_eq (tgt := 320) hx hb dX7_step_167 (by decide) (fun c => absurd c (show ¬ ((1 : Int32) = 0) from by decide)) (fun _ => ?_)
                refine lv_aload_n hx hb dX7_step_170 rfl (lv_at hl 5 rfl) ?_
                refine lv_iload_n hx hb dX7_step_171 rfl (lv_at hl 4 rfl) ?_
                refine lv_iload_n hx hb dX7_step_172 rfl (lv_at hl 3 rfl) ?_
                refine lv_iload_n hx hb dX7_step_173 rfl (lv_at hl 2 rfl) ?_
                refine tq_V (As := [.int (ga (C 14) ((1 : Int32)).toNatClampNeg), .int (ga (C 14) ((2 : Int32)).toNatClampNeg), .int z60_3]) (rest := []) (ws := (oh_W n a K60)) ⟨hx, hb, hml, hown, htg⟩ (c_X7_goesOf l D E G a K60 n hn hT (ga (C 14) ((1 : Int32)).toNatClampNeg) (ga (C 14) ((2 : Int32)).toNatClampNeg) z60_3 (rg_w (tA_rdc (lo := 0) (hi := 4) (tM_14 hT0) (rg_in (rg_c (v := 1) (lo := 1) (hi := 1) (by decide)) (by decide)) (show _ = 1 by decide) (by decide)) (by decide)) (rg_w (rn_ltu (u' := 23) (Int32.not_le.mp c_14) hz60_3 (fM_0_9 hT0) (by decide)) (by decide)) (oh_posU (rg_w (tA_rdc (lo := 0) (hi := 4) (tM_14 hT0) (rg_in (rg_c (v := 1) (lo := 1) (hi := 1) (by decide)) (by decide)) (show _ = 1 by decide) (by decide)) (by decide)) (fun i hi => hLF_60.1 _ (inR_out hi (by decide)) (by omega)) (oh_posU (rg_w (tA_rdc (lo := 0) (hi := 4) (tM_14 hT0) (rg_in (rg_c (v := 1) (lo := 1) (hi := 1) (by decide)) (by decide)) (show _ = 1 by decide) (by decide)) (by decide)) (fun i hi => f_11.1 _ (inR_out hi (by decide)) (by omega)) (oh_posu hR.1 hT0 c_1)))) (cwV 3 htg (oh_gV q_1318 q_1320 q_54 q_73 q_1321) rfl rfl rfl pdVX7_goesOf ⟨Nat.le_of_ble_eq_true rfl, Nat.le_of_ble_eq_true rfl⟩) hK hP hG hS (va_recv hK hP (ci := 7) (q0 := 0) rfl (oh_wg (Nat.lt_of_lt_of_le (by decide) hn) (sM_0 hT))) rfl hl.1 rfl (Nat.le_of_ble_eq_true rfl) dX7_step_174 ⟨Nat.le_of_ble_eq_true rfl, Nat.le_of_ble_eq_true rfl⟩ (fun r_35 hq_36 => ?_)
                refine lv_if_eq (tgt := 320) hx hb dX7_step_177 (by decide) (fun (c_37 : r_35 = 0) => ?_) (fun (c_37 : ¬ (r_35 = 0)) => ?_)
                · refine lv_iinc (v := z60_3 + 1) (lv' := [(3, .int (z60_3 + 1)), (5, .int (ga (C (24 + (z60_3).toNatClampNeg)) ((0 : Int32)).toNatClampNeg)), (4, .int 1), (2, .int (ga (C 14) ((2 : Int32)).toNatClampNeg)), (1, .int (ga (C 14) ((1 : Int32)).toNatClampNeg)), (0, .ref (a 0))]) hx hb dX7_step_320 hl (k := 2) rfl (by rfl) (by decide) rfl (fun ls hl => ?_)
                  refine lv_goto (tgt := 60) hx hb dX7_step_323 (by decide) ?_
                  exact ih_60 _ (hd_60 ▸ mu_up 24 (rn_ltu (u' := 23) (Int32.not_le.mp c_14) hz60_3 (fM_0_9 hT0) (by decide)) (by decide)) K60 (z60_3 + 1) _ _ ls rfl (rg_w (rg_add (lo := 1) (hi := 24) (rn_ltu (u' := 23) (Int32.not_le.mp c_14) hz60_3 (fM_0_9 hT0) (by decide)) (rg_c (v := 1) (lo := 1) (hi := 1) (by decide)) (by decide)) (by decide)) (fun A hA => by have h1 := (hx_60 A hA); exact h1) hT hF hLF_60 hP hD hS (lv_sub hl [0, 3, 4, 5] rfl)
                · refine lv_aload_n hx hb dX7_step_180 rfl (lv_at hl 5 rfl) ?_
                  refine lv_iload_n hx hb dX7_step_181 rfl (lv_at hl 4 rfl) ?_
                  refine lv_iload_n hx hb dX7_step_182 rfl (lv_at hl 3 rfl) ?_
                  refine lv_iload_n hx hb dX7_step_183 rfl (lv_at hl 2 rfl) ?_
                  refine lv_iconst (v := 1) hx hb dX7_step_184 (by decide) ?_
                  refine tq_V (As := [.int (ga (C 14) ((1 : Int32)).toNatClampNeg), .int (ga (C 14) ((2 : Int32)).toNatClampNeg), .int z60_3, .int 1]) (rest := []) (ws := (oh_W n a K60)) ⟨hx, hb, hml, hown, htg⟩ (c_X7_coinOf l D E G a K60 n hn hT (ga (C 14) ((1 : Int32)).toNatClampNeg) (ga (C 14) ((2 : Int32)).toNatClampNeg) z60_3 (1 : Int32) (rg_w (tA_rdc (lo := 0) (hi := 4) (tM_14 hT0) (rg_in (rg_c (v := 1) (lo := 1) (hi := 1) (by decide)) (by decide)) (show _ = 1 by decide) (by decide)) (by decide)) (rg_w (rn_ltu (u' := 23) (Int32.not_le.mp c_14) hz60_3 (fM_0_9 hT0) (by decide)) (by decide)) (oh_posU (rg_w (tA_rdc (lo := 0) (hi := 4) (tM_14 hT0) (rg_in (rg_c (v := 1) (lo := 1) (hi := 1) (by decide)) (by decide)) (show _ = 1 by decide) (by decide)) (by decide)) (fun i hi => hLF_60.1 _ (inR_out hi (by decide)) (by omega)) (oh_posU (rg_w (tA_rdc (lo := 0) (hi := 4) (tM_14 hT0) (rg_in (rg_c (v := 1) (lo := 1) (hi := 1) (by decide)) (by decide)) (show _ = 1 by decide) (by decide)) (by decide)) (fun i hi => f_11.1 _ (inR_out hi (by decide)) (by omega)) (oh_posu hR.1 hT0 c_1)))) (cwV 4 htg (oh_gV q_1326 q_1328 q_56 q_73 q_1329) rfl rfl rfl pdVX7_coinOf ⟨Nat.le_of_ble_eq_true rfl, Nat.le_of_ble_eq_true rfl⟩) hK hP hG hS (va_recv hK hP (ci := 7) (q0 := 0) rfl (oh_wg (Nat.lt_of_lt_of_le (by decide) hn) (sM_0 hT))) rfl hl.1 rfl (Nat.le_of_ble_eq_true rfl) dX7_step_185 ⟨Nat.le_of_ble_eq_true rfl, Nat.le_of_ble_eq_true rfl⟩ (fun r_38 hq_39 => ?_)
                  refine lv_i2l (v := Int32.toInt64 r_38) hx hb dX7_step_188 (by rfl) ?_
                  refine lv_aload_n hx hb dX7_step_189 rfl (lv_at hl 5 rfl) ?_
                  refine va_get (D := D) (ci := 7) (v := .ref (a 15)) (C := RX7) (T := TX7) (N := 29) hx hb htg ig_7 hown hK hP 0 (oh_wg (Nat.lt_of_lt_of_le (by decide) hn) (sM_0 hT)) rfl 27 (by decide) (htg _ q_1000) (fun _ h9 => h9) rfl dX7_step_190 ?_
                  refine lv_iload hx hb dX7_step_193 (lv_at hl 0 rfl) ?_
                  have n_40 : vp_in (ga (C (24 + (z60_3).toNatClampNeg)) ((0 : Int32)).toNatClampNeg) 16 := (rg_in (rn_eq c_29 (tA_rdc (lo := 0) (hi := 15) (tM_14 hT0) (rg_in (rg_c (v := 3) (lo := 3) (hi := 3) (by decide)) (by decide)) (show _ = 3 by decide) (by decide))) (by decide))
                  refine th_lald hx hb hK hP 15 (Nat.lt_of_lt_of_le (by decide) hn) (Eq.trans (hLF_60.1 15 rfl (by decide)) (sM_15 t_12)) n_40 dX7_step_195 ?_
                  refine lv_ladd hx hb dX7_step_196 ?_
                  refine lv_aload_n hx hb dX7_step_197 rfl (lv_at hl 5 rfl) ?_
                  refine va_get (D := D) (ci := 7) (v := .ref (a 15)) (C := RX7) (T := TX7) (N := 29) hx hb htg ig_7 hown hK hP 0 (oh_wg (Nat.lt_of_lt_of_le (by decide) hn) (sM_0 hT)) rfl 27 (by decide) (htg _ q_1000) (fun _ h9 => h9) rfl dX7_step_198 ?_
                  refine lv_aload_n hx hb dX7_step_201 rfl (lv_at hl 5 rfl) ?_
                  refine va_get (D := D) (ci := 7) (v := .ref (a 14)) (C := RX7) (T := TX7) (N := 29) hx hb htg ig_7 hown hK hP 0 (oh_wg (Nat.lt_of_lt_of_le (by decide) hn) (sM_0 hT)) rfl 18 (by decide) (htg _ q_991) (fun _ h9 => h9) rfl dX7_step_202 ?_
                  refine lv_iconst (v := 3) hx hb dX7_step_205 (by decide) ?_
                  refine th_iald hx hb hK hP 14 (Nat.lt_of_lt_of_le (by decide) hn) (Eq.trans (Eq.trans (hLF_60.1 14 rfl (by decide)) (f_11.1 14 rfl (by decide))) (sM_14 hT0)) (rg_in (rg_c (v := 3) (lo := 3) (hi := 3) (by decide)) (by decide)) dX7_step_206 ?_
                  have n_41 : vp_in (ga (C 14) ((3 : Int32)).toNatClampNeg) 16 := (rg_in (rn_eq c_29.symm (tA_rdc (lo := 0) (hi := 15) (hT0.broad b_28) (rg_in (rg_c (v := 0) (lo := 0) (hi := 0) (by decide)) (by decide)) (show _ = 0 by decide) (by decide))) (by decide))
                  refine th_lald hx hb hK hP 15 (Nat.lt_of_lt_of_le (by decide) hn) (Eq.trans (hLF_60.1 15 rfl (by decide)) (sM_15 t_12)) n_41 dX7_step_207 ?_
                  refine W.lcmp hx hb dX7_step_208 ?_
                  refine lv_if_ne (tgt := 320) hx hb dX7_step_209 (by decide) (fun (c_42 : ¬ ((lg_cmp ((Int32.toInt64 r_38) + (gb (C_9 15) (ga (C (24 + (z60_3).toNatClampNeg)) ((0 : Int32)).toNatClampNeg).toNatClampNeg)) (gb (C_9 15) (ga (C 14) ((3 : Int32)).toNatClampNeg).toNatClampNeg)) = 0)) => ?_) (fun (c_42 : (lg_cmp ((Int32.toInt64 r_38) + (gb (C_9 15) (ga (C (24 + (z60_3).toNatClampNeg)) ((0 : Int32)).toNatClampNeg).toNatClampNeg)) (gb (C_9 15) (ga (C 14) ((3 : Int32)).toNatClampNeg).toNatClampNeg)) = 0) => ?_)
                  · refine lv_iinc (v := z60_3 + 1) (lv' := [(3, .int (z60_3 + 1)), (5, .int (ga (C (24 + (z60_3).toNatClampNeg)) ((0 : Int32)).toNatClampNeg)), (4, .int 1), (2, .int (ga (C 14) ((2 : Int32)).toNatClampNeg)), (1, .int (ga (C 14) ((1 : Int32)).toNatClampNeg)), (0, .ref (a 0))]) hx hb dX7_step_320 hl (k := 2) rfl (by rfl) (by decide) rfl (fun ls hl => ?_)
                    refine lv_goto (tgt := 60) hx hb dX7_step_323 (by decide) ?_
                    exact ih_60 _ (hd_60 ▸ mu_up 24 (rn_ltu (u' := 23) (Int32.not_le.mp c_14) hz60_3 (fM_0_9 hT0) (by decide)) (by decide)) K60 (z60_3 + 1) _ _ ls rfl (rg_w (rg_add (lo := 1) (hi := 24) (rn_ltu (u' := 23) (Int32.not_le.mp c_14) hz60_3 (fM_0_9 hT0) (by decide)) (rg_c (v := 1) (lo := 1) (hi := 1) (by decide)) (by decide)) (by decide)) (fun A hA => by have h1 := (hx_60 A hA); exact h1) hT hF hLF_60 hP hD hS (lv_sub hl [0, 3, 4, 5] rfl)
                  · refine lv_aload_n hx hb dX7_step_212 rfl (lv_at hl 5 rfl) ?_
                    refine lv_dup hx hb dX7_step_213 rfl ?_
                    refine va_get (D := D) (ci := 7) (v := .int (gi (C 0) 19)) (C := RX7) (T := TX7) (N := 29) hx hb htg ig_7 hown hK hP 0 (oh_wg (Nat.lt_of_lt_of_le (by decide) hn) (sM_0 hT)) rfl 19 (by decide) (htg _ q_992) (fun _ h9 => h9) (oh_fv (c := K60 0) (j := 19) rfl (Eq.trans (congrArg vi (hLF_60.2 19 (by decide))) (congrArg vi (f_11.2 19 (by decide))))) dX7_step_214 ?_
                    refine lv_aload_n hx hb dX7_step_217 rfl (lv_at hl 5 rfl) ?_
                    refine lv_iload_n hx hb dX7_step_218 rfl (lv_at hl 4 rfl) ?_
                    refine lv_iload_n hx hb dX7_step_219 rfl (lv_at hl 3 rfl) ?_
                    refine lv_iload_n hx hb dX7_step_220 rfl (lv_at hl 2 rfl) ?_
                    refine lv_iconst (v := 1) hx hb dX7_step_221 (by decide) ?_
                    refine tq_V (As := [.int (ga (C 14) ((1 : Int32)).toNatClampNeg), .int (ga (C 14) ((2 : Int32)).toNatClampNeg), .int z60_3, .int 1]) (rest := [.int (gi (C 0) 19), .ref (a 0)]) (ws := (oh_W n a K60)) ⟨hx, hb, hml, hown, htg⟩ (c_X7_coinOf l D E G a K60 n hn hT (ga (C 14) ((1 : Int32)).toNatClampNeg) (ga (C 14) ((2 : Int32)).toNatClampNeg) z60_3 (1 : Int32) (rg_w (tA_rdc (lo := 0) (hi := 4) (tM_14 hT0) (rg_in (rg_c (v := 1) (lo := 1) (hi := 1) (by decide)) (by decide)) (show _ = 1 by decide) (by decide)) (by decide)) (rg_w (rn_ltu (u' := 23) (Int32.not_le.mp c_14) hz60_3 (fM_0_9 hT0) (by decide)) (by decide)) (oh_posU (rg_w (tA_rdc (lo := 0) (hi := 4) (tM_14 hT0) (rg_in (rg_c (v := 1) (lo := 1) (hi := 1) (by decide)) (by decide)) (show _ = 1 by decide) (by decide)) (by decide)) (fun i hi => hLF_60.1 _ (inR_out hi (by decide)) (by omega)) (oh_posU (rg_w (tA_rdc (lo := 0) (hi := 4) (tM_14 hT0) (rg_in (rg_c (v := 1) (lo := 1) (hi := 1) (by decide)) (by decide)) (show _ = 1 by decide) (by decide)) (by decide)) (fun i hi => f_11.1 _ (inR_out hi (by decide)) (by omega)) (oh_posu hR.1 hT0 c_1)))) (cwV 4 htg (oh_gV q_1326 q_1328 q_56 q_73 q_1329) rfl rfl rfl pdVX7_coinOf ⟨Nat.le_of_ble_eq_true rfl, Nat.le_of_ble_eq_true rfl⟩) hK hP hG hS (va_recv hK hP (ci := 7) (q0 := 0) rfl (oh_wg (Nat.lt_of_lt_of_le (by decide) hn) (sM_0 hT))) rfl hl.1 rfl (Nat.le_of_ble_eq_true rfl) dX7_step_222 ⟨Nat.le_of_ble_eq_true rfl, Nat.le_of_ble_eq_true rfl⟩ (fun r_43 hq_44 => ?_)
                    refine lv_iadd hx hb dX7_step_225 ?_
                    refine th_put (Tp := TyM a E) (Rl := fr [(8, 9), (14, 15), (15, 16), (48, 64)] [19] C) (ci := 7) (v := .int ((gi (C 0) 19) + r_43)) (ty := .int) (CC := RX7) (T := TX7) (N := 29) hx hb htg ig_7 tyX7 tyX7_ok nmX7 hown hK hP hD hS 0 (Nat.lt_of_lt_of_le (by decide) hn) (sM_0 hT) rfl 19 (by decide) (htg _ q_992) (fun _ h9 => h9) rfl (by decide +kernel) rfl rfl (Nat.le_of_ble_eq_true rfl) (hT.up 0 (by decide) ⟨rfl, (fM_0_7 hT), (fM_0_9 hT), (fM_0_11 hT), (fM_0_13 hT), (fM_0_15 hT), (fM_0_21 hT), (fM_0_23 hT)⟩) (fr_fd hF (sM_0 hT) (by decide)) dX7_step_226 (fun C_45 H locs e_46 hT hF hP hD hS => ?_)
                    have t_47 := hT
                    refine lv_aload_n hx hb dX7_step_229 rfl (lv_at hl 5 rfl) ?_
                    refine va_get (D := D) (ci := 7) (v := .ref (a 14)) (C := RX7) (T := TX7) (N := 29) hx hb htg ig_7 hown hK hP 0 (oh_wg (Nat.lt_of_lt_of_le (by decide) hn) (sM_0 hT)) rfl 18 (by decide) (htg _ q_991) (fun _ h9 => h9) rfl dX7_step_230 ?_
                    refine lv_iconst (v := 5) hx hb dX7_step_233 (by decide) ?_
                    refine lv_dup2_11 hx hb dX7_step_234 rfl rfl ?_
                    refine th_iald hx hb hK hP 14 (Nat.lt_of_lt_of_le (by decide) hn) (Eq.trans (Eq.trans (th_un e_46 (by decide)) (Eq.trans (hLF_60.1 14 rfl (by decide)) (f_11.1 14 rfl (by decide)))) (sM_14 hT0)) (rg_in (rg_c (v := 5) (lo := 5) (hi := 5) (by decide)) (by decide)) dX7_step_235 ?_
                    refine lv_aload_n hx hb dX7_step_236 rfl (lv_at hl 5 rfl) ?_
                    refine lv_iload_n hx hb dX7_step_237 rfl (lv_at hl 4 rfl) ?_
                    refine lv_iload_n hx hb dX7_step_238 rfl (lv_at hl 3 rfl) ?_
                    refine lv_iload_n hx hb dX7_step_239 rfl (lv_at hl 2 rfl) ?_
                    refine tq_V (As := [.int (ga (C 14) ((1 : Int32)).toNatClampNeg), .int (ga (C 14) ((2 : Int32)).toNatClampNeg), .int z60_3]) (rest := [.int (ga (C 14) ((5 : Int32)).toNatClampNeg), .int 5, .ref (a 14)]) (ws := (oh_W n a C_45)) ⟨hx, hb, hml, hown, htg⟩ (c_X7_daysOf l D E G a C_45 n hn hT (ga (C 14) ((1 : Int32)).toNatClampNeg) (ga (C 14) ((2 : Int32)).toNatClampNeg) z60_3 (rg_w (tA_rdc (lo := 0) (hi := 4) (tM_14 hT0) (rg_in (rg_c (v := 1) (lo := 1) (hi := 1) (by decide)) (by decide)) (show _ = 1 by decide) (by decide)) (by decide)) (rg_w (rn_ltu (u' := 23) (Int32.not_le.mp c_14) hz60_3 (fM_0_9 hT0) (by decide)) (by decide)) (oh_posU (rg_w (tA_rdc (lo := 0) (hi := 4) (tM_14 hT0) (rg_in (rg_c (v := 1) (lo := 1) (hi := 1) (by decide)) (by decide)) (show _ = 1 by decide) (by decide)) (by decide)) (fun i hi => th_un e_46 (by omega)) (oh_posU (rg_w (tA_rdc (lo := 0) (hi := 4) (tM_14 hT0) (rg_in (rg_c (v := 1) (lo := 1) (hi := 1) (by decide)) (by decide)) (show _ = 1 by decide) (by decide)) (by decide)) (fun i hi => hLF_60.1 _ (inR_out hi (by decide)) (by omega)) (oh_posU (rg_w (tA_rdc (lo := 0) (hi := 4) (tM_14 hT0) (rg_in (rg_c (v := 1) (lo := 1) (hi := 1) (by decide)) (by decide)) (show _ = 1 by decide) (by decide)) (by decide)) (fun i hi => f_11.1 _ (inR_out hi (by decide)) (by omega)) (oh_posu hR.1 hT0 c_1))))) (cwV 3 htg (oh_gV q_1334 q_1336 q_58 q_73 q_1337) rfl rfl rfl pdVX7_daysOf ⟨Nat.le_of_ble_eq_true rfl, Nat.le_of_ble_eq_true rfl⟩) hK hP hG hS (va_recv hK hP (ci := 7) (q0 := 0) rfl (oh_wg (Nat.lt_of_lt_of_le (by decide) hn) (sM_0 hT))) rfl hl.1 rfl (Nat.le_of_ble_eq_true rfl) dX7_step_240 ⟨Nat.le_of_ble_eq_true rfl, Nat.le_of_ble_eq_true rfl⟩ (fun r_48 hq_49 => ?_)
                    refine lv_iadd hx hb dX7_step_243 ?_
                    refine th_iast (T := TyM a E) (Rl := fr [(8, 9), (14, 15), (15, 16), (48, 64)] [19] C) hx hb hK hP hD hS 14 (Nat.lt_of_lt_of_le (by decide) hn) (sM_14 hT) (rg_in (rg_c (v := 5) (lo := 5) (hi := 5) (by decide)) (by decide)) (hT.up 14 (by decide) (tA_upd (tM_14 hT) (tA_stc (show _ = 5 by decide) (rg_any _) (by decide)))) (fr_st hF (by decide) (by decide)) dX7_step_244 (fun C_50 H locs e_51 hT hF hP hD hS => ?_)
                    have t_52 := hT
                    refine lv_aload_n hx hb dX7_step_245 rfl (lv_at hl 5 rfl) ?_
                    refine va_get (D := D) (ci := 7) (v := .ref (a 14)) (C := RX7) (T := TX7) (N := 29) hx hb htg ig_7 hown hK hP 0 (oh_wg (Nat.lt_of_lt_of_le (by decide) hn) (sM_0 hT)) rfl 18 (by decide) (htg _ q_991) (fun _ h9 => h9) rfl dX7_step_246 ?_
                    refine lv_bipush (v := 6) hx hb dX7_step_249 (by decide) ?_
                    refine lv_dup2_11 hx hb dX7_step_251 rfl rfl ?_
                    refine th_iald hx hb hK hP 14 (Nat.lt_of_lt_of_le (by decide) hn) (sM_14 hT) (rg_in (rg_c (v := 6) (lo := 6) (hi := 6) (by decide)) (by decide)) dX7_step_252 ?_
                    refine lv_iconst (v := 1) hx hb dX7_step_253 (by decide) ?_
                    refine lv_iadd hx hb dX7_step_254 ?_
                    refine th_iast (T := TyM a E) (Rl := fr [(8, 9), (14, 15), (15, 16), (48, 64)] [19] C) hx hb hK hP hD hS 14 (Nat.lt_of_lt_of_le (by decide) hn) (sM_14 hT) (rg_in (rg_c (v := 6) (lo := 6) (hi := 6) (by decide)) (by decide)) (hT.up 14 (by decide) (tA_upd (tM_14 hT) (tA_stc (show _ = 6 by decide) (rg_any _) (by decide)))) (fr_st hF (by decide) (by decide)) dX7_step_255 (fun C_53 H locs e_54 hT hF hP hD hS => ?_)
                    have t_55 := hT
                    refine lv_aload_n hx hb dX7_step_256 rfl (lv_at hl 5 rfl) ?_
                    refine va_get (D := D) (ci := 7) (v := .ref (a 14)) (C := RX7) (T := TX7) (N := 29) hx hb htg ig_7 hown hK hP 0 (oh_wg (Nat.lt_of_lt_of_le (by decide) hn) (sM_0 hT)) rfl 18 (by decide) (htg _ q_991) (fun _ h9 => h9) rfl dX7_step_257 ?_
                    refine lv_iconst (v := 3) hx hb dX7_step_260 (by decide) ?_
                    refine lv_iload hx hb dX7_step_261 (lv_at hl 0 rfl) ?_
                    refine th_iast (T := TyM a E) (Rl := fr [(8, 9), (14, 15), (15, 16), (48, 64)] [19] C) hx hb hK hP hD hS 14 (Nat.lt_of_lt_of_le (by decide) hn) (sM_14 hT) (rg_in (rg_c (v := 3) (lo := 3) (hi := 3) (by decide)) (by decide)) (hT.up 14 (by decide) (tA_upd (tM_14 hT) (tA_stc (show _ = 3 by decide) (rn_eq c_29 (tA_rdc (lo := 0) (hi := 15) (tM_14 hT0) (rg_in (rg_c (v := 3) (lo := 3) (hi := 3) (by decide)) (by decide)) (show _ = 3 by decide) (by decide))) (by decide)))) (fr_st hF (by decide) (by decide)) dX7_step_263 (fun C_56 H locs e_57 hT hF hP hD hS => ?_)
                    have t_58 := hT
                    refine lv_iconst (v := 0) hx hb dX7_step_264 (by decide) ?_
                    refine lv_istore (lv' := [(6, .int 0), (5, .int (ga (C (24 + (z60_3).toNatClampNeg)) ((0 : Int32)).toNatClampNeg)), (4, .int 1), (3, .int z60_3), (2, .int (ga (C 14) ((2 : Int32)).toNatClampNeg)), (1, .int (ga (C 14) ((1 : Int32)).toNatClampNeg)), (0, .ref (a 0))]) hx hb dX7_step_265 hl (by decide) rfl (fun ls hl => ?_)
                    have L_267 : ∀ (d : Nat) (K267 : Nat → va_E) (z267_6 : Int32) (H : Heap) (locs : List Loc) (ls : Array Slot), (16 - z267_6.toInt).toNat = d → rg z267_6 0 16 → (∀ A : LA, absM C A → absM K267 A) → TyM a E K267 → fr [(8, 9), (14, 15), (15, 16), (48, 64)] [19] C K267 → fr [(48, 64)] [] C_56 K267 → va_P D vwCl (oh_W n a K267) H → va_D A (oh_W n a K267) → va_S A s.heap H locs → lv_has ls 7 [(6, .int z267_6), (5, .int (ga (C (24 + (z60_3).toNatClampNeg)) ((0 : Int32)).toNatClampNeg)), (4, .int 1), (3, .int z60_3), (2, .int (ga (C 14) ((2 : Int32)).toNatClampNeg)), (1, .int (ga (C 14) ((1 : Int32)).toNatClampNeg)), (0, .ref (a 0))] → W p l e ({ frames := 6, cells := 0, slots := 0, locals := 152 }) s m (([.ref (a 0)] : List Value).toArray) below meth c H locs 0 0 Q (F0 m 267 ls []) := by
                      intro d
                      induction d using Nat.strongRecOn with
                      | ind d ih_267 =>
                      intro K267 z267_6 H locs ls hd_267 hz267_6 hx_267 hT hF hLF_267 hP hD hS hl
                      have t_59 := hT
                      refine lv_iload hx hb dX7_step_267 (lv_at hl 0 rfl) ?_
                      refine lv_aload_n hx hb dX7_step_269 rfl (lv_at hl 6 rfl) ?_
                      refine va_get (D := D) (ci := 7) (v := .int (gi (C 0) 11)) (C := RX7) (T := TX7) (N := 29) hx hb htg ig_7 hown hK hP 0 (oh_wg (Nat.lt_of_lt_of_le (by decide) hn) (sM_0 hT)) rfl 11 (by decide) (htg _ q_984) (fun _ h9 => h9) (oh_fv (c := K267 0) (j := 11) rfl (Eq.trans (congrArg vi (hLF_267.2 11 (by decide))) (Eq.trans (congrArg (fun z => gi z 11) (th_un e_57 (by decide))) (Eq.trans (congrArg (fun z => gi z 11) (th_un e_54 (by decide))) (Eq.trans (congrArg (fun z => gi z 11) (th_un e_51 (by decide))) (Eq.trans (show gi (C_45 0) 11 = gi (K60 0) 11 by rw [e_46]; rfl) (Eq.trans (congrArg vi (hLF_60.2 11 (by decide))) (congrArg vi (f_11.2 11 (by decide)))))))))) dX7_step_270 ?_
                      refine lv_icmp_ge (tgt := 318) hx hb dX7_step_273 (by decide) (fun (c_60 : (gi (C 0) 11) ≤ z267_6) => ?_) (fun (c_60 : ¬ ((gi (C 0) 11) ≤ z267_6)) => ?_)
                      · refine lv_iload_n hx hb dX7_step_318 rfl (lv_at hl 3 rfl) ?_
                        rw [hQ]
                        exact W.iret (v := z60_3) hx hb hr (fun t ht hW => ⟨⟨z60_3, K267, rfl, ⟨hT, hF, ⟨⟨relW_mk hR.1 hF (by decide) (by rw [show ga (K267 14) 0 = ga (C 14) 0 by rw [(hLF_267.1 14 rfl (by decide)), (st_ga e_57), pk_un (by decide), (st_ga e_54), pk_un (by decide), (st_ga e_51), pk_un (by decide), (Eq.trans (th_un e_46 (by decide)) (Eq.trans (hLF_60.1 14 rfl (by decide)) (f_11.1 14 rfl (by decide))))], show ga (K267 14) 1 = ga (C 14) 1 by rw [(hLF_267.1 14 rfl (by decide)), (st_ga e_57), pk_un (by decide), (st_ga e_54), pk_un (by decide), (st_ga e_51), pk_un (by decide), (Eq.trans (th_un e_46 (by decide)) (Eq.trans (hLF_60.1 14 rfl (by decide)) (f_11.1 14 rfl (by decide))))]]; exact hR.1.2), hR.2.fr hF (by decide)⟩, (fun A hA => by have h1 := (hx_267 A hA); exact h1)⟩⟩, ⟨by rw [ht]; exact hP, hD⟩⟩, hS.F ht⟩) hS.2.2 dX7_step_319
                      · refine lv_aload_n hx hb dX7_step_276 rfl (lv_at hl 6 rfl) ?_
                        refine va_get (D := D) (ci := 7) (v := .ref (a 10)) (C := RX7) (T := TX7) (N := 29) hx hb htg ig_7 hown hK hP 0 (oh_wg (Nat.lt_of_lt_of_le (by decide) hn) (sM_0 hT)) rfl 12 (by decide) (htg _ q_985) (fun _ h9 => h9) rfl dX7_step_277 ?_
                        refine lv_iload hx hb dX7_step_280 (lv_at hl 0 rfl) ?_
                        have n_61 : vp_in z267_6 16 := (rg_in (rn_ltu (u' := 15) (Int32.not_le.mp c_60) hz267_6 (fM_0_11 hT0) (by decide)) (by decide))
                        have b_62 : (z267_6).toNatClampNeg < 16 := vp_lt n_61
                        refine th_aald hx hb hK hP 10 2 (Nat.lt_of_lt_of_le (by decide) hn) (sM_10 hT) rfl n_61 dX7_step_282 ?_
                        refine lv_iconst (v := 0) hx hb dX7_step_283 (by decide) ?_
                        refine th_iald hx hb hK hP (48 + (z267_6).toNatClampNeg) (lt_blk b_62 hn (by decide)) (hT.bbridge b_62).1 (rg_in (rg_c (v := 0) (lo := 0) (hi := 0) (by decide)) (by decide)) dX7_step_284 ?_
                        refine lv_iload_n hx hb dX7_step_285 rfl (lv_at hl 3 rfl) ?_
                        refine lv_icmp_ne (tgt := 312) hx hb dX7_step_286 (by decide) (fun (c_63 : ¬ ((ga (K267 (48 + (z267_6).toNatClampNeg)) ((0 : Int32)).toNatClampNeg) = z60_3)) => ?_) (fun (c_63 : (ga (K267 (48 + (z267_6).toNatClampNeg)) ((0 : Int32)).toNatClampNeg) = z60_3) => ?_)
                        · refine lv_iinc (v := z267_6 + 1) (lv' := [(6, .int (z267_6 + 1)), (5, .int (ga (C (24 + (z60_3).toNatClampNeg)) ((0 : Int32)).toNatClampNeg)), (4, .int 1), (3, .int z60_3), (2, .int (ga (C 14) ((2 : Int32)).toNatClampNeg)), (1, .int (ga (C 14) ((1 : Int32)).toNatClampNeg)), (0, .ref (a 0))]) hx hb dX7_step_312 hl (k := 0) rfl (by rfl) (by decide) rfl (fun ls hl => ?_)
                          refine lv_goto (tgt := 267) hx hb dX7_step_315 (by decide) ?_
                          exact ih_267 _ (hd_267 ▸ mu_up 16 (rn_ltu (u' := 15) (Int32.not_le.mp c_60) hz267_6 (fM_0_11 hT0) (by decide)) (by decide)) K267 (z267_6 + 1) _ _ ls rfl (rg_w (rg_add (lo := 1) (hi := 16) (rn_ltu (u' := 15) (Int32.not_le.mp c_60) hz267_6 (fM_0_11 hT0) (by decide)) (rg_c (v := 1) (lo := 1) (hi := 1) (by decide)) (by decide)) (by decide)) (fun A hA => by have h1 := (hx_267 A hA); exact h1) hT hF hLF_267 hP hD hS (lv_sub hl [0, 1, 2, 3, 4, 5, 6] rfl)
                        · refine lv_aload_n hx hb dX7_step_289 rfl (lv_at hl 6 rfl) ?_
                          refine lv_iload_n hx hb dX7_step_290 rfl (lv_at hl 5 rfl) ?_
                          refine lv_iload_n hx hb dX7_step_291 rfl (lv_at hl 4 rfl) ?_
                          refine lv_iload hx hb dX7_step_292 (lv_at hl 0 rfl) ?_
                          refine tq_V (As := [.int (ga (C 14) ((1 : Int32)).toNatClampNeg), .int (ga (C 14) ((2 : Int32)).toNatClampNeg), .int z267_6]) (rest := []) (ws := (oh_W n a K267)) ⟨hx, hb, hml, hown, htg⟩ (c_X7_needsOf l D E G a K267 n hn hT (ga (C 14) ((1 : Int32)).toNatClampNeg) (ga (C 14) ((2 : Int32)).toNatClampNeg) z267_6 (rg_w (tA_rdc (lo := 0) (hi := 4) (tM_14 hT0) (rg_in (rg_c (v := 1) (lo := 1) (hi := 1) (by decide)) (by decide)) (show _ = 1 by decide) (by decide)) (by decide)) (rg_w (rn_ltu (u' := 15) (Int32.not_le.mp c_60) hz267_6 (fM_0_11 hT0) (by decide)) (by decide)) (oh_posU (rg_w (tA_rdc (lo := 0) (hi := 4) (tM_14 hT0) (rg_in (rg_c (v := 1) (lo := 1) (hi := 1) (by decide)) (by decide)) (show _ = 1 by decide) (by decide)) (by decide)) (fun i hi => hLF_267.1 _ (inR_out hi (by decide)) (by omega)) (oh_posU (rg_w (tA_rdc (lo := 0) (hi := 4) (tM_14 hT0) (rg_in (rg_c (v := 1) (lo := 1) (hi := 1) (by decide)) (by decide)) (show _ = 1 by decide) (by decide)) (by decide)) (fun i hi => th_un e_57 (by omega)) (oh_posU (rg_w (tA_rdc (lo := 0) (hi := 4) (tM_14 hT0) (rg_in (rg_c (v := 1) (lo := 1) (hi := 1) (by decide)) (by decide)) (show _ = 1 by decide) (by decide)) (by decide)) (fun i hi => th_un e_54 (by omega)) (oh_posU (rg_w (tA_rdc (lo := 0) (hi := 4) (tM_14 hT0) (rg_in (rg_c (v := 1) (lo := 1) (hi := 1) (by decide)) (by decide)) (show _ = 1 by decide) (by decide)) (by decide)) (fun i hi => th_un e_51 (by omega)) (oh_posU (rg_w (tA_rdc (lo := 0) (hi := 4) (tM_14 hT0) (rg_in (rg_c (v := 1) (lo := 1) (hi := 1) (by decide)) (by decide)) (show _ = 1 by decide) (by decide)) (by decide)) (fun i hi => th_un e_46 (by omega)) (oh_posU (rg_w (tA_rdc (lo := 0) (hi := 4) (tM_14 hT0) (rg_in (rg_c (v := 1) (lo := 1) (hi := 1) (by decide)) (by decide)) (show _ = 1 by decide) (by decide)) (by decide)) (fun i hi => hLF_60.1 _ (inR_out hi (by decide)) (by omega)) (oh_posU (rg_w (tA_rdc (lo := 0) (hi := 4) (tM_14 hT0) (rg_in (rg_c (v := 1) (lo := 1) (hi := 1) (by decide)) (by decide)) (show _ = 1 by decide) (by decide)) (by decide)) (fun i hi => f_11.1 _ (inR_out hi (by decide)) (by omega)) (oh_posu hR.1 hT0 c_1))))))))) (cwV 3 htg (oh_gV q_1310 q_1312 q_53 q_73 q_1313) rfl rfl rfl pdVX7_needsOf ⟨Nat.le_of_ble_eq_true rfl, Nat.le_of_ble_eq_true rfl⟩) hK hP hG hS (va_recv hK hP (ci := 7) (q0 := 0) rfl (oh_wg (Nat.lt_of_lt_of_le (by decide) hn) (sM_0 hT))) rfl hl.1 rfl (Nat.le_of_ble_eq_true rfl) dX7_step_294 ⟨Nat.le_of_ble_eq_true rfl, Nat.le_of_ble_eq_true rfl⟩ (fun r_64 hq_65 => ?_)
                          refine lv_iconst (v := 1) hx hb dX7_step_297 (by decide) ?_
                          refine lv_icmp_ne (tgt := 312) hx hb dX7_step_298 (by decide) (fun (c_66 : ¬ (r_64 = 1)) => ?_) (fun (c_66 : r_64 = 1) => ?_)
                          · refine lv_iinc (v := z267_6 + 1) (lv' := [(6, .int (z267_6 + 1)), (5, .int (ga (C (24 + (z60_3).toNatClampNeg)) ((0 : Int32)).toNatClampNeg)), (4, .int 1), (3, .int z60_3), (2, .int (ga (C 14) ((2 : Int32)).toNatClampNeg)), (1, .int (ga (C 14) ((1 : Int32)).toNatClampNeg)), (0, .ref (a 0))]) hx hb dX7_step_312 hl (k := 0) rfl (by rfl) (by decide) rfl (fun ls hl => ?_)
                            refine lv_goto (tgt := 267) hx hb dX7_step_315 (by decide) ?_
                            exact ih_267 _ (hd_267 ▸ mu_up 16 (rn_ltu (u' := 15) (Int32.not_le.mp c_60) hz267_6 (fM_0_11 hT0) (by decide)) (by decide)) K267 (z267_6 + 1) _ _ ls rfl (rg_w (rg_add (lo := 1) (hi := 16) (rn_ltu (u' := 15) (Int32.not_le.mp c_60) hz267_6 (fM_0_11 hT0) (by decide)) (rg_c (v := 1) (lo := 1) (hi := 1) (by decide)) (by decide)) (by decide)) (fun A hA => by have h1 := (hx_267 A hA); exact h1) hT hF hLF_267 hP hD hS (lv_sub hl [0, 1, 2, 3, 4, 5, 6] rfl)
                          · refine lv_aload_n hx hb dX7_step_301 rfl (lv_at hl 6 rfl) ?_
                            refine va_get (D := D) (ci := 7) (v := .ref (a 10)) (C := RX7) (T := TX7) (N := 29) hx hb htg ig_7 hown hK hP 0 (oh_wg (Nat.lt_of_lt_of_le (by decide) hn) (sM_0 hT)) rfl 12 (by decide) (htg _ q_985) (fun _ h9 => h9) rfl dX7_step_302 ?_
                            refine lv_iload hx hb dX7_step_305 (lv_at hl 0 rfl) ?_
                            have n_67 : vp_in z267_6 16 := (rg_in (rn_ltu (u' := 15) (Int32.not_le.mp c_60) hz267_6 (fM_0_11 hT0) (by decide)) (by decide))
                            have b_68 : (z267_6).toNatClampNeg < 16 := vp_lt n_67
                            refine th_aald hx hb hK hP 10 2 (Nat.lt_of_lt_of_le (by decide) hn) (sM_10 hT) rfl n_67 dX7_step_307 ?_
                            refine lv_bipush (v := 7) hx hb dX7_step_308 (by decide) ?_
                            refine lv_iconst (v := 1) hx hb dX7_step_310 (by decide) ?_
                            refine th_iast (T := TyM a E) (Rl := fr [(8, 9), (14, 15), (15, 16), (48, 64)] [19] C) hx hb hK hP hD hS (48 + (z267_6).toNatClampNeg) (lt_blk b_68 hn (by decide)) (hT.bbridge b_68).1 (rg_in (rg_c (v := 7) (lo := 7) (hi := 7) (by decide)) (by decide)) (hT.upbridge b_68 (tA_upd (hT.bbridge b_68) tA_any)) (fr_st hF (by omega) (inR_of (p := (48, 64)) (by decide) (by show 48 ≤ _; omega) (by show _ < 64; omega))) dX7_step_311 (fun C_69 H locs e_70 hT hF hP hD hS => ?_)
                            have t_71 := hT
                            refine lv_iinc (v := z267_6 + 1) (lv' := [(6, .int (z267_6 + 1)), (5, .int (ga (C (24 + (z60_3).toNatClampNeg)) ((0 : Int32)).toNatClampNeg)), (4, .int 1), (3, .int z60_3), (2, .int (ga (C 14) ((2 : Int32)).toNatClampNeg)), (1, .int (ga (C 14) ((1 : Int32)).toNatClampNeg)), (0, .ref (a 0))]) hx hb dX7_step_312 hl (k := 0) rfl (by rfl) (by decide) rfl (fun ls hl => ?_)
                            refine lv_goto (tgt := 267) hx hb dX7_step_315 (by decide) ?_
                            exact ih_267 _ (hd_267 ▸ mu_up 16 (rn_ltu (u' := 15) (Int32.not_le.mp c_60) hz267_6 (fM_0_11 hT0) (by decide)) (by decide)) C_69 (z267_6 + 1) _ _ ls rfl (rg_w (rg_add (lo := 1) (hi := 16) (rn_ltu (u' := 15) (Int32.not_le.mp c_60) hz267_6 (fM_0_11 hT0) (by decide)) (rg_c (v := 1) (lo := 1) (hi := 1) (by decide)) (by decide)) (by decide)) (fun A hA => by have h1 := (hx_267 A hA); have h2 := absM_st (t := 1) t_59 h1 (by decide) (show (z267_6).toNatClampNeg < 16 from b_68) e_70; have h3 := absM_vis h2; exact h3) hT hF (fr_ste hLF_267 e_70 (by omega) (inR_of (p := (48, 64)) (by decide) (by show 48 ≤ _; omega) (by show _ < 64; omega))) hP hD hS (lv_sub hl [0, 1, 2, 3, 4, 5, 6] rfl)
                    exact L_267 _ C_56 0 _ _ ls rfl (rg_w (rg_c (v := 0) (lo := 0) (hi := 0) (by decide)) (by decide)) (fun A hA => by have h1 := (hx_60 A hA); have h2 := absM_fr h1 t_13 (show fr [(14, 15)] [19] K60 C_56 from (fr_ste (fr_ste (fr_ste (fr_fde fr_rf e_46 (sM_0 t_13) (by decide)) e_51 (by decide) (by decide)) e_54 (by decide) (by decide)) e_57 (by decide) (by decide))) (by decide) (by decide) (by decide); exact h2) hT hF fr_rf hP hD hS (lv_sub hl [0, 1, 2, 3, 4, 5, 6] rfl)
              · refine lv_aload_n hx hb dX7_step_144 rfl (lv_at hl 4 rfl) ?_
                refine va_get (D := D) (ci := 7) (v := .ref (a 9)) (C := RX7) (T := TX7) (N := 29) hx hb htg ig_7 hown hK hP 0 (oh_wg (Nat.lt_of_lt_of_le (by decide) hn) (sM_0 hT)) rfl 10 (by decide) (htg _ q_983) (fun _ h9 => h9) rfl dX7_step_145 ?_
                refine lv_iload_n hx hb dX7_step_148 rfl (lv_at hl 1 rfl) ?_
                have n_72 : vp_in z60_3 24 := (rg_in (rn_ltu (u' := 23) (Int32.not_le.mp c_14) hz60_3 (fM_0_9 hT0) (by decide)) (by decide))
                have b_73 : (z60_3).toNatClampNeg < 24 := vp_lt n_72
                refine th_aald hx hb hK hP 9 2 (Nat.lt_of_lt_of_le (by decide) hn) (sM_9 hT) rfl n_72 dX7_step_149 ?_
                refine lv_iconst (v := 1) hx hb dX7_step_150 (by decide) ?_
                refine th_iald hx hb hK hP (24 + (z60_3).toNatClampNeg) (lt_blk b_73 hn (by decide)) (Eq.trans (Eq.trans (hLF_60.1 (24 + (z60_3).toNatClampNeg) (by have h9 := b_73; exact inR_out h9 (by decide)) (by omega)) (f_11.1 (24 + (z60_3).toNatClampNeg) (by have h9 := b_73; exact inR_out h9 (by decide)) (by omega))) (hT0.broad b_73).1) (rg_in (rg_c (v := 1) (lo := 1) (hi := 1) (by decide)) (by decide)) dX7_step_151 ?_
                refine lv_goto (tgt := 163) hx hb dX7_step_152 (by decide) ?_
                refine lv_istore (lv' := [(5, .int (ga (C (24 + (z60_3).toNatClampNeg)) ((1 : Int32)).toNatClampNeg)), (4, .int 1), (3, .int z60_3), (2, .int (ga (C 14) ((2 : Int32)).toNatClampNeg)), (1, .int (ga (C 14) ((1 : Int32)).toNatClampNeg)), (0, .ref (a 0))]) hx hb dX7_step_163 hl (by decide) rfl (fun ls hl => ?_)
                refine lv_iload hx hb dX7_step_165 (lv_at hl 1 rfl) ?_
                refine lv_if_eq (tgt := 320) hx hb dX7_step_167 (by decide) (fun c => absurd c (show ¬ ((1 : Int32) = 0) from by decide)) (fun _ => ?_)
                refine lv_aload_n hx hb dX7_step_170 rfl (lv_at hl 5 rfl) ?_
                refine lv_iload_n hx hb dX7_step_171 rfl (lv_at hl 4 rfl) ?_
                refine lv_iload_n hx hb dX7_step_172 rfl (lv_at hl 3 rfl) ?_
                refine lv_iload_n hx hb dX7_step_173 rfl (lv_at hl 2 rfl) ?_
                refine tq_V (As := [.int (ga (C 14) ((1 : Int32)).toNatClampNeg), .int (ga (C 14) ((2 : Int32)).toNatClampNeg), .int z60_3]) (rest := []) (ws := (oh_W n a K60)) ⟨hx, hb, hml, hown, htg⟩ (c_X7_goesOf l D E G a K60 n hn hT (ga (C 14) ((1 : Int32)).toNatClampNeg) (ga (C 14) ((2 : Int32)).toNatClampNeg) z60_3 (rg_w (tA_rdc (lo := 0) (hi := 4) (tM_14 hT0) (rg_in (rg_c (v := 1) (lo := 1) (hi := 1) (by decide)) (by decide)) (show _ = 1 by decide) (by decide)) (by decide)) (rg_w (rn_ltu (u' := 23) (Int32.not_le.mp c_14) hz60_3 (fM_0_9 hT0) (by decide)) (by decide)) (oh_posU (rg_w (tA_rdc (lo := 0) (hi := 4) (tM_14 hT0) (rg_in (rg_c (v := 1) (lo := 1) (hi := 1) (by decide)) (by decide)) (show _ = 1 by decide) (by decide)) (by decide)) (fun i hi => hLF_60.1 _ (inR_out hi (by decide)) (by omega)) (oh_posU (rg_w (tA_rdc (lo := 0) (hi := 4) (tM_14 hT0) (rg_in (rg_c (v := 1) (lo := 1) (hi := 1) (by decide)) (by decide)) (show _ = 1 by decide) (by decide)) (by decide)) (fun i hi => f_11.1 _ (inR_out hi (by decide)) (by omega)) (oh_posu hR.1 hT0 c_1)))) (cwV 3 htg (oh_gV q_1318 q_1320 q_54 q_73 q_1321) rfl rfl rfl pdVX7_goesOf ⟨Nat.le_of_ble_eq_true rfl, Nat.le_of_ble_eq_true rfl⟩) hK hP hG hS (va_recv hK hP (ci := 7) (q0 := 0) rfl (oh_wg (Nat.lt_of_lt_of_le (by decide) hn) (sM_0 hT))) rfl hl.1 rfl (Nat.le_of_ble_eq_true rfl) dX7_step_174 ⟨Nat.le_of_ble_eq_true rfl, Nat.le_of_ble_eq_true rfl⟩ (fun r_74 hq_75 => ?_)
                refine lv_if_eq (tgt := 320) hx hb dX7_step_177 (by decide) (fun (c_76 : r_74 = 0) => ?_) (fun (c_76 : ¬ (r_74 = 0)) => ?_)
                · refine lv_iinc (v := z60_3 + 1) (lv' := [(3, .int (z60_3 + 1)), (5, .int (ga (C (24 + (z60_3).toNatClampNeg)) ((1 : Int32)).toNatClampNeg)), (4, .int 1), (2, .int (ga (C 14) ((2 : Int32)).toNatClampNeg)), (1, .int (ga (C 14) ((1 : Int32)).toNatClampNeg)), (0, .ref (a 0))]) hx hb dX7_step_320 hl (k := 2) rfl (by rfl) (by decide) rfl (fun ls hl => ?_)
                  refine lv_goto (tgt := 60) hx hb dX7_step_323 (by decide) ?_
                  exact ih_60 _ (hd_60 ▸ mu_up 24 (rn_ltu (u' := 23) (Int32.not_le.mp c_14) hz60_3 (fM_0_9 hT0) (by decide)) (by decide)) K60 (z60_3 + 1) _ _ ls rfl (rg_w (rg_add (lo := 1) (hi := 24) (rn_ltu (u' := 23) (Int32.not_le.mp c_14) hz60_3 (fM_0_9 hT0) (by decide)) (rg_c (v := 1) (lo := 1) (hi := 1) (by decide)) (by decide)) (by decide)) (fun A hA => by have h1 := (hx_60 A hA); exact h1) hT hF hLF_60 hP hD hS (lv_sub hl [0, 3, 4, 5] rfl)
                · refine lv_aload_n hx hb dX7_step_180 rfl (lv_at hl 5 rfl) ?_
                  refine lv_iload_n hx hb dX7_step_181 rfl (lv_at hl 4 rfl) ?_
                  refine lv_iload_n hx hb dX7_step_182 rfl (lv_at hl 3 rfl) ?_
                  refine lv_iload_n hx hb dX7_step_183 rfl (lv_at hl 2 rfl) ?_
                  refine lv_iconst (v := 1) hx hb dX7_step_184 (by decide) ?_
                  refine tq_V (As := [.int (ga (C 14) ((1 : Int32)).toNatClampNeg), .int (ga (C 14) ((2 : Int32)).toNatClampNeg), .int z60_3, .int 1]) (rest := []) (ws := (oh_W n a K60)) ⟨hx, hb, hml, hown, htg⟩ (c_X7_coinOf l D E G a K60 n hn hT (ga (C 14) ((1 : Int32)).toNatClampNeg) (ga (C 14) ((2 : Int32)).toNatClampNeg) z60_3 (1 : Int32) (rg_w (tA_rdc (lo := 0) (hi := 4) (tM_14 hT0) (rg_in (rg_c (v := 1) (lo := 1) (hi := 1) (by decide)) (by decide)) (show _ = 1 by decide) (by decide)) (by decide)) (rg_w (rn_ltu (u' := 23) (Int32.not_le.mp c_14) hz60_3 (fM_0_9 hT0) (by decide)) (by decide)) (oh_posU (rg_w (tA_rdc (lo := 0) (hi := 4) (tM_14 hT0) (rg_in (rg_c (v := 1) (lo := 1) (hi := 1) (by decide)) (by decide)) (show _ = 1 by decide) (by decide)) (by decide)) (fun i hi => hLF_60.1 _ (inR_out hi (by decide)) (by omega)) (oh_posU (rg_w (tA_rdc (lo := 0) (hi := 4) (tM_14 hT0) (rg_in (rg_c (v := 1) (lo := 1) (hi := 1) (by decide)) (by decide)) (show _ = 1 by decide) (by decide)) (by decide)) (fun i hi => f_11.1 _ (inR_out hi (by decide)) (by omega)) (oh_posu hR.1 hT0 c_1)))) (cwV 4 htg (oh_gV q_1326 q_1328 q_56 q_73 q_1329) rfl rfl rfl pdVX7_coinOf ⟨Nat.le_of_ble_eq_true rfl, Nat.le_of_ble_eq_true rfl⟩) hK hP hG hS (va_recv hK hP (ci := 7) (q0 := 0) rfl (oh_wg (Nat.lt_of_lt_of_le (by decide) hn) (sM_0 hT))) rfl hl.1 rfl (Nat.le_of_ble_eq_true rfl) dX7_step_185 ⟨Nat.le_of_ble_eq_true rfl, Nat.le_of_ble_eq_true rfl⟩ (fun r_77 hq_78 => ?_)
                  refine lv_i2l (v := Int32.toInt64 r_77) hx hb dX7_step_188 (by rfl) ?_
                  refine lv_aload_n hx hb dX7_step_189 rfl (lv_at hl 5 rfl) ?_
                  refine va_get (D := D) (ci := 7) (v := .ref (a 15)) (C := RX7) (T := TX7) (N := 29) hx hb htg ig_7 hown hK hP 0 (oh_wg (Nat.lt_of_lt_of_le (by decide) hn) (sM_0 hT)) rfl 27 (by decide) (htg _ q_1000) (fun _ h9 => h9) rfl dX7_step_190 ?_
                  refine lv_iload hx hb dX7_step_193 (lv_at hl 0 rfl) ?_
                  have n_79 : vp_in (ga (C (24 + (z60_3).toNatClampNeg)) ((1 : Int32)).toNatClampNeg) 16 := (rg_in (tA_rdc (lo := 0) (hi := 15) (hT0.broad b_73) (rg_in (rg_c (v := 1) (lo := 1) (hi := 1) (by decide)) (by decide)) (show _ = 1 by decide) (by decide)) (by decide))
                  refine th_lald hx hb hK hP 15 (Nat.lt_of_lt_of_le (by decide) hn) (Eq.trans (hLF_60.1 15 rfl (by decide)) (sM_15 t_12)) n_79 dX7_step_195 ?_
                  refine lv_ladd hx hb dX7_step_196 ?_
                  refine lv_aload_n hx hb dX7_step_197 rfl (lv_at hl 5 rfl) ?_
                  refine va_get (D := D) (ci := 7) (v := .ref (a 15)) (C := RX7) (T := TX7) (N := 29) hx hb htg ig_7 hown hK hP 0 (oh_wg (Nat.lt_of_lt_of_le (by decide) hn) (sM_0 hT)) rfl 27 (by decide) (htg _ q_1000) (fun _ h9 => h9) rfl dX7_step_198 ?_
                  refine lv_aload_n hx hb dX7_step_201 rfl (lv_at hl 5 rfl) ?_
                  refine va_get (D := D) (ci := 7) (v := .ref (a 14)) (C := RX7) (T := TX7) (N := 29) hx hb htg ig_7 hown hK hP 0 (oh_wg (Nat.lt_of_lt_of_le (by decide) hn) (sM_0 hT)) rfl 18 (by decide) (htg _ q_991) (fun _ h9 => h9) rfl dX7_step_202 ?_
                  refine lv_iconst (v := 3) hx hb dX7_step_205 (by decide) ?_
                  refine th_iald hx hb hK hP 14 (Nat.lt_of_lt_of_le (by decide) hn) (Eq.trans (Eq.trans (hLF_60.1 14 rfl (by decide)) (f_11.1 14 rfl (by decide))) (sM_14 hT0)) (rg_in (rg_c (v := 3) (lo := 3) (hi := 3) (by decide)) (by decide)) dX7_step_206 ?_
                  have n_80 : vp_in (ga (C 14) ((3 : Int32)).toNatClampNeg) 16 := (rg_in (rn_eq c_32.symm (rn_eq c_29 (tA_rdc (lo := 0) (hi := 15) (tM_14 hT0) (rg_in (rg_c (v := 3) (lo := 3) (hi := 3) (by decide)) (by decide)) (show _ = 3 by decide) (by decide)))) (by decide))
                  refine th_lald hx hb hK hP 15 (Nat.lt_of_lt_of_le (by decide) hn) (Eq.trans (hLF_60.1 15 rfl (by decide)) (sM_15 t_12)) n_80 dX7_step_207 ?_
                  refine W.lcmp hx hb dX7_step_208 ?_
                  refine lv_if_ne (tgt := 320) hx hb dX7_step_209 (by decide) (fun (c_81 : ¬ ((lg_cmp ((Int32.toInt64 r_77) + (gb (C_9 15) (ga (C (24 + (z60_3).toNatClampNeg)) ((1 : Int32)).toNatClampNeg).toNatClampNeg)) (gb (C_9 15) (ga (C 14) ((3 : Int32)).toNatClampNeg).toNatClampNeg)) = 0)) => ?_) (fun (c_81 : (lg_cmp ((Int32.toInt64 r_77) + (gb (C_9 15) (ga (C (24 + (z60_3).toNatClampNeg)) ((1 : Int32)).toNatClampNeg).toNatClampNeg)) (gb (C_9 15) (ga (C 14) ((3 : Int32)).toNatClampNeg).toNatClampNeg)) = 0) => ?_)
                  · refine lv_iinc (v := z60_3 + 1) (lv' := [(3, .int (z60_3 + 1)), (5, .int (ga (C (24 + (z60_3).toNatClampNeg)) ((1 : Int32)).toNatClampNeg)), (4, .int 1), (2, .int (ga (C 14) ((2 : Int32)).toNatClampNeg)), (1, .int (ga (C 14) ((1 : Int32)).toNatClampNeg)), (0, .ref (a 0))]) hx hb dX7_step_320 hl (k := 2) rfl (by rfl) (by decide) rfl (fun ls hl => ?_)
                    refine lv_goto (tgt := 60) hx hb dX7_step_323 (by decide) ?_
                    exact ih_60 _ (hd_60 ▸ mu_up 24 (rn_ltu (u' := 23) (Int32.not_le.mp c_14) hz60_3 (fM_0_9 hT0) (by decide)) (by decide)) K60 (z60_3 + 1) _ _ ls rfl (rg_w (rg_add (lo := 1) (hi := 24) (rn_ltu (u' := 23) (Int32.not_le.mp c_14) hz60_3 (fM_0_9 hT0) (by decide)) (rg_c (v := 1) (lo := 1) (hi := 1) (by decide)) (by decide)) (by decide)) (fun A hA => by have h1 := (hx_60 A hA); exact h1) hT hF hLF_60 hP hD hS (lv_sub hl [0, 3, 4, 5] rfl)
                  · refine lv_aload_n hx hb dX7_step_212 rfl (lv_at hl 5 rfl) ?_
                    refine lv_dup hx hb dX7_step_213 rfl ?_
                    refine va_get (D := D) (ci := 7) (v := .int (gi (C 0) 19)) (C := RX7) (T := TX7) (N := 29) hx hb htg ig_7 hown hK hP 0 (oh_wg (Nat.lt_of_lt_of_le (by decide) hn) (sM_0 hT)) rfl 19 (by decide) (htg _ q_992) (fun _ h9 => h9) (oh_fv (c := K60 0) (j := 19) rfl (Eq.trans (congrArg vi (hLF_60.2 19 (by decide))) (congrArg vi (f_11.2 19 (by decide))))) dX7_step_214 ?_
                    refine lv_aload_n hx hb dX7_step_217 rfl (lv_at hl 5 rfl) ?_
                    refine lv_iload_n hx hb dX7_step_218 rfl (lv_at hl 4 rfl) ?_
                    refine lv_iload_n hx hb dX7_step_219 rfl (lv_at hl 3 rfl) ?_
                    refine lv_iload_n hx hb dX7_step_220 rfl (lv_at hl 2 rfl) ?_
                    refine lv_iconst (v := 1) hx hb dX7_step_221 (by decide) ?_
                    refine tq_V (As := [.int (ga (C 14) ((1 : Int32)).toNatClampNeg), .int (ga (C 14) ((2 : Int32)).toNatClampNeg), .int z60_3, .int 1]) (rest := [.int (gi (C 0) 19), .ref (a 0)]) (ws := (oh_W n a K60)) ⟨hx, hb, hml, hown, htg⟩ (c_X7_coinOf l D E G a K60 n hn hT (ga (C 14) ((1 : Int32)).toNatClampNeg) (ga (C 14) ((2 : Int32)).toNatClampNeg) z60_3 (1 : Int32) (rg_w (tA_rdc (lo := 0) (hi := 4) (tM_14 hT0) (rg_in (rg_c (v := 1) (lo := 1) (hi := 1) (by decide)) (by decide)) (show _ = 1 by decide) (by decide)) (by decide)) (rg_w (rn_ltu (u' := 23) (Int32.not_le.mp c_14) hz60_3 (fM_0_9 hT0) (by decide)) (by decide)) (oh_posU (rg_w (tA_rdc (lo := 0) (hi := 4) (tM_14 hT0) (rg_in (rg_c (v := 1) (lo := 1) (hi := 1) (by decide)) (by decide)) (show _ = 1 by decide) (by decide)) (by decide)) (fun i hi => hLF_60.1 _ (inR_out hi (by decide)) (by omega)) (oh_posU (rg_w (tA_rdc (lo := 0) (hi := 4) (tM_14 hT0) (rg_in (rg_c (v := 1) (lo := 1) (hi := 1) (by decide)) (by decide)) (show _ = 1 by decide) (by decide)) (by decide)) (fun i hi => f_11.1 _ (inR_out hi (by decide)) (by omega)) (oh_posu hR.1 hT0 c_1)))) (cwV 4 htg (oh_gV q_1326 q_1328 q_56 q_73 q_1329) rfl rfl rfl pdVX7_coinOf ⟨Nat.le_of_ble_eq_true rfl, Nat.le_of_ble_eq_true rfl⟩) hK hP hG hS (va_recv hK hP (ci := 7) (q0 := 0) rfl (oh_wg (Nat.lt_of_lt_of_le (by decide) hn) (sM_0 hT))) rfl hl.1 rfl (Nat.le_of_ble_eq_true rfl) dX7_step_222 ⟨Nat.le_of_ble_eq_true rfl, Nat.le_of_ble_eq_true rfl⟩ (fun r_82 hq_83 => ?_)
                    refine lv_iadd hx hb dX7_step_225 ?_
                    refine th_put (Tp := TyM a E) (Rl := fr [(8, 9), (14, 15), (15, 16), (48, 64)] [19] C) (ci := 7) (v := .int ((gi (C 0) 19) + r_82)) (ty := .int) (CC := RX7) (T := TX7) (N := 29) hx hb htg ig_7 tyX7 tyX7_ok nmX7 hown hK hP hD hS 0 (Nat.lt_of_lt_of_le (by decide) hn) (sM_0 hT) rfl 19 (by decide) (htg _ q_992) (fun _ h9 => h9) rfl (by decide +kernel) rfl rfl (Nat.le_of_ble_eq_true rfl) (hT.up 0 (by decide) ⟨rfl, (fM_0_7 hT), (fM_0_9 hT), (fM_0_11 hT), (fM_0_13 hT), (fM_0_15 hT), (fM_0_21 hT), (fM_0_23 hT)⟩) (fr_fd hF (sM_0 hT) (by decide)) dX7_step_226 (fun C_84 H locs e_85 hT hF hP hD hS => ?_)
                    have t_86 := hT
                    refine lv_aload_n hx hb dX7_step_229 rfl (lv_at hl 5 rfl) ?_
                    refine va_get (D := D) (ci := 7) (v := .ref (a 14)) (C := RX7) (T := TX7) (N := 29) hx hb htg ig_7 hown hK hP 0 (oh_wg (Nat.lt_of_lt_of_le (by decide) hn) (sM_0 hT)) rfl 18 (by decide) (htg _ q_991) (fun _ h9 => h9) rfl dX7_step_230 ?_
                    refine lv_iconst (v := 5) hx hb dX7_step_233 (by decide) ?_
                    refine lv_dup2_11 hx hb dX7_step_234 rfl rfl ?_
                    refine th_iald hx hb hK hP 14 (Nat.lt_of_lt_of_le (by decide) hn) (Eq.trans (Eq.trans (th_un e_85 (by decide)) (Eq.trans (hLF_60.1 14 rfl (by decide)) (f_11.1 14 rfl (by decide)))) (sM_14 hT0)) (rg_in (rg_c (v := 5) (lo := 5) (hi := 5) (by decide)) (by decide)) dX7_step_235 ?_
                    refine lv_aload_n hx hb dX7_step_236 rfl (lv_at hl 5 rfl) ?_
                    refine lv_iload_n hx hb dX7_step_237 rfl (lv_at hl 4 rfl) ?_
                    refine lv_iload_n hx hb dX7_step_238 rfl (lv_at hl 3 rfl) ?_
                    refine lv_iload_n hx hb dX7_step_239 rfl (lv_at hl 2 rfl) ?_
                    refine tq_V (As := [.int (ga (C 14) ((1 : Int32)).toNatClampNeg), .int (ga (C 14) ((2 : Int32)).toNatClampNeg), .int z60_3]) (rest := [.int (ga (C 14) ((5 : Int32)).toNatClampNeg), .int 5, .ref (a 14)]) (ws := (oh_W n a C_84)) ⟨hx, hb, hml, hown, htg⟩ (c_X7_daysOf l D E G a C_84 n hn hT (ga (C 14) ((1 : Int32)).toNatClampNeg) (ga (C 14) ((2 : Int32)).toNatClampNeg) z60_3 (rg_w (tA_rdc (lo := 0) (hi := 4) (tM_14 hT0) (rg_in (rg_c (v := 1) (lo := 1) (hi := 1) (by decide)) (by decide)) (show _ = 1 by decide) (by decide)) (by decide)) (rg_w (rn_ltu (u' := 23) (Int32.not_le.mp c_14) hz60_3 (fM_0_9 hT0) (by decide)) (by decide)) (oh_posU (rg_w (tA_rdc (lo := 0) (hi := 4) (tM_14 hT0) (rg_in (rg_c (v := 1) (lo := 1) (hi := 1) (by decide)) (by decide)) (show _ = 1 by decide) (by decide)) (by decide)) (fun i hi => th_un e_85 (by omega)) (oh_posU (rg_w (tA_rdc (lo := 0) (hi := 4) (tM_14 hT0) (rg_in (rg_c (v := 1) (lo := 1) (hi := 1) (by decide)) (by decide)) (show _ = 1 by decide) (by decide)) (by decide)) (fun i hi => hLF_60.1 _ (inR_out hi (by decide)) (by omega)) (oh_posU (rg_w (tA_rdc (lo := 0) (hi := 4) (tM_14 hT0) (rg_in (rg_c (v := 1) (lo := 1) (hi := 1) (by decide)) (by decide)) (show _ = 1 by decide) (by decide)) (by decide)) (fun i hi => f_11.1 _ (inR_out hi (by decide)) (by omega)) (oh_posu hR.1 hT0 c_1))))) (cwV 3 htg (oh_gV q_1334 q_1336 q_58 q_73 q_1337) rfl rfl rfl pdVX7_daysOf ⟨Nat.le_of_ble_eq_true rfl, Nat.le_of_ble_eq_true rfl⟩) hK hP hG hS (va_recv hK hP (ci := 7) (q0 := 0) rfl (oh_wg (Nat.lt_of_lt_of_le (by decide) hn) (sM_0 hT))) rfl hl.1 rfl (Nat.le_of_ble_eq_true rfl) dX7_step_240 ⟨Nat.le_of_ble_eq_true rfl, Nat.le_of_ble_eq_true rfl⟩ (fun r_87 hq_88 => ?_)
                    refine lv_iadd hx hb dX7_step_243 ?_
                    refine th_iast (T := TyM a E) (Rl := fr [(8, 9), (14, 15), (15, 16), (48, 64)] [19] C) hx hb hK hP hD hS 14 (Nat.lt_of_lt_of_le (by decide) hn) (sM_14 hT) (rg_in (rg_c (v := 5) (lo := 5) (hi := 5) (by decide)) (by decide)) (hT.up 14 (by decide) (tA_upd (tM_14 hT) (tA_stc (show _ = 5 by decide) (rg_any _) (by decide)))) (fr_st hF (by decide) (by decide)) dX7_step_244 (fun C_89 H locs e_90 hT hF hP hD hS => ?_)
                    have t_91 := hT
                    refine lv_aload_n hx hb dX7_step_245 rfl (lv_at hl 5 rfl) ?_
                    refine va_get (D := D) (ci := 7) (v := .ref (a 14)) (C := RX7) (T := TX7) (N := 29) hx hb htg ig_7 hown hK hP 0 (oh_wg (Nat.lt_of_lt_of_le (by decide) hn) (sM_0 hT)) rfl 18 (by decide) (htg _ q_991) (fun _ h9 => h9) rfl dX7_step_246 ?_
                    refine lv_bipush (v := 6) hx hb dX7_step_249 (by decide) ?_
                    refine lv_dup2_11 hx hb dX7_step_251 rfl rfl ?_
                    refine th_iald hx hb hK hP 14 (Nat.lt_of_lt_of_le (by decide) hn) (sM_14 hT) (rg_in (rg_c (v := 6) (lo := 6) (hi := 6) (by decide)) (by decide)) dX7_step_252 ?_
                    refine lv_iconst (v := 1) hx hb dX7_step_253 (by decide) ?_
                    refine lv_iadd hx hb dX7_step_254 ?_
                    refine th_iast (T := TyM a E) (Rl := fr [(8, 9), (14, 15), (15, 16), (48, 64)] [19] C) hx hb hK hP hD hS 14 (Nat.lt_of_lt_of_le (by decide) hn) (sM_14 hT) (rg_in (rg_c (v := 6) (lo := 6) (hi := 6) (by decide)) (by decide)) (hT.up 14 (by decide) (tA_upd (tM_14 hT) (tA_stc (show _ = 6 by decide) (rg_any _) (by decide)))) (fr_st hF (by decide) (by decide)) dX7_step_255 (fun C_92 H locs e_93 hT hF hP hD hS => ?_)
                    have t_94 := hT
                    refine lv_aload_n hx hb dX7_step_256 rfl (lv_at hl 5 rfl) ?_
                    refine va_get (D := D) (ci := 7) (v := .ref (a 14)) (C := RX7) (T := TX7) (N := 29) hx hb htg ig_7 hown hK hP 0 (oh_wg (Nat.lt_of_lt_of_le (by decide) hn) (sM_0 hT)) rfl 18 (by decide) (htg _ q_991) (fun _ h9 => h9) rfl dX7_step_257 ?_
                    refine lv_iconst (v := 3) hx hb dX7_step_260 (by decide) ?_
                    refine lv_iload hx hb dX7_step_261 (lv_at hl 0 rfl) ?_
                    refine th_iast (T := TyM a E) (Rl := fr [(8, 9), (14, 15), (15, 16), (48, 64)] [19] C) hx hb hK hP hD hS 14 (Nat.lt_of_lt_of_le (by decide) hn) (sM_14 hT) (rg_in (rg_c (v := 3) (lo := 3) (hi := 3) (by decide)) (by decide)) (hT.up 14 (by decide) (tA_upd (tM_14 hT) (tA_stc (show _ = 3 by decide) (tA_rdc (lo := 0) (hi := 15) (hT0.broad b_73) (rg_in (rg_c (v := 1) (lo := 1) (hi := 1) (by decide)) (by decide)) (show _ = 1 by decide) (by decide)) (by decide)))) (fr_st hF (by decide) (by decide)) dX7_step_263 (fun C_95 H locs e_96 hT hF hP hD hS => ?_)
                    have t_97 := hT
                    refine lv_iconst (v := 0) hx hb dX7_step_264 (by decide) ?_
                    refine lv_istore (lv' := [(6, .int 0), (5, .int (ga (C (24 + (z60_3).toNatClampNeg)) ((1 : Int32)).toNatClampNeg)), (4, .int 1), (3, .int z60_3), (2, .int (ga (C 14) ((2 : Int32)).toNatClampNeg)), (1, .int (ga (C 14) ((1 : Int32)).toNatClampNeg)), (0, .ref (a 0))]) hx hb dX7_step_265 hl (by decide) rfl (fun ls hl => ?_)
                    have L_267 : ∀ (d : Nat) (K267 : Nat → va_E) (z267_6 : Int32) (H : Heap) (locs : List Loc) (ls : Array Slot), (16 - z267_6.toInt).toNat = d → rg z267_6 0 16 → (∀ A : LA, absM C A → absM K267 A) → TyM a E K267 → fr [(8, 9), (14, 15), (15, 16), (48, 64)] [19] C K267 → fr [(48, 64)] [] C_95 K267 → va_P D vwCl (oh_W n a K267) H → va_D A (oh_W n a K267) → va_S A s.heap H locs → lv_has ls 7 [(6, .int z267_6), (5, .int (ga (C (24 + (z60_3).toNatClampNeg)) ((1 : Int32)).toNatClampNeg)), (4, .int 1), (3, .int z60_3), (2, .int (ga (C 14) ((2 : Int32)).toNatClampNeg)), (1, .int (ga (C 14) ((1 : Int32)).toNatClampNeg)), (0, .ref (a 0))] → W p l e ({ frames := 6, cells := 0, slots := 0, locals := 152 }) s m (([.ref (a 0)] : List Value).toArray) below meth c H locs 0 0 Q (F0 m 267 ls []) := by
                      intro d
                      induction d using Nat.strongRecOn with
                      | ind d ih_267 =>
                      intro K267 z267_6 H locs ls hd_267 hz267_6 hx_267 hT hF hLF_267 hP hD hS hl
                      have t_98 := hT
                      refine lv_iload hx hb dX7_step_267 (lv_at hl 0 rfl) ?_
                      refine lv_aload_n hx hb dX7_step_269 rfl (lv_at hl 6 rfl) ?_
                      refine va_get (D := D) (ci := 7) (v := .int (gi (C 0) 11)) (C := RX7) (T := TX7) (N := 29) hx hb htg ig_7 hown hK hP 0 (oh_wg (Nat.lt_of_lt_of_le (by decide) hn) (sM_0 hT)) rfl 11 (by decide) (htg _ q_984) (fun _ h9 => h9) (oh_fv (c := K267 0) (j := 11) rfl (Eq.trans (congrArg vi (hLF_267.2 11 (by decide))) (Eq.trans (congrArg (fun z => gi z 11) (th_un e_96 (by decide))) (Eq.trans (congrArg (fun z => gi z 11) (th_un e_93 (by decide))) (Eq.trans (congrArg (fun z => gi z 11) (th_un e_90 (by decide))) (Eq.trans (show gi (C_84 0) 11 = gi (K60 0) 11 by rw [e_85]; rfl) (Eq.trans (congrArg vi (hLF_60.2 11 (by decide))) (congrArg vi (f_11.2 11 (by decide)))))))))) dX7_step_270 ?_
                      refine lv_icmp_ge (tgt := 318) hx hb dX7_step_273 (by decide) (fun (c_99 : (gi (C 0) 11) ≤ z267_6) => ?_) (fun (c_99 : ¬ ((gi (C 0) 11) ≤ z267_6)) => ?_)
                      · refine lv_iload_n hx hb dX7_step_318 rfl (lv_at hl 3 rfl) ?_
                        rw [hQ]
                        exact W.iret (v := z60_3) hx hb hr (fun t ht hW => ⟨⟨z60_3, K267, rfl, ⟨hT, hF, ⟨⟨relW_mk hR.1 hF (by decide) (by rw [show ga (K267 14) 0 = ga (C 14) 0 by rw [(hLF_267.1 14 rfl (by decide)), (st_ga e_96), pk_un (by decide), (st_ga e_93), pk_un (by decide), (st_ga e_90), pk_un (by decide), (Eq.trans (th_un e_85 (by decide)) (Eq.trans (hLF_60.1 14 rfl (by decide)) (f_11.1 14 rfl (by decide))))], show ga (K267 14) 1 = ga (C 14) 1 by rw [(hLF_267.1 14 rfl (by decide)), (st_ga e_96), pk_un (by decide), (st_ga e_93), pk_un (by decide), (st_ga e_90), pk_un (by decide), (Eq.trans (th_un e_85 (by decide)) (Eq.trans (hLF_60.1 14 rfl (by decide)) (f_11.1 14 rfl (by decide))))]]; exact hR.1.2), hR.2.fr hF (by decide)⟩, (fun A hA => by have h1 := (hx_267 A hA); exact h1)⟩⟩, ⟨by rw [ht]; exact hP, hD⟩⟩, hS.F ht⟩) hS.2.2 dX7_step_319
                      · refine lv_aload_n hx hb dX7_step_276 rfl (lv_at hl 6 rfl) ?_
                        refine va_get (D := D) (ci := 7) (v := .ref (a 10)) (C := RX7) (T := TX7) (N := 29) hx hb htg ig_7 hown hK hP 0 (oh_wg (Nat.lt_of_lt_of_le (by decide) hn) (sM_0 hT)) rfl 12 (by decide) (htg _ q_985) (fun _ h9 => h9) rfl dX7_step_277 ?_
                        refine lv_iload hx hb dX7_step_280 (lv_at hl 0 rfl) ?_
                        have n_100 : vp_in z267_6 16 := (rg_in (rn_ltu (u' := 15) (Int32.not_le.mp c_99) hz267_6 (fM_0_11 hT0) (by decide)) (by decide))
                        have b_101 : (z267_6).toNatClampNeg < 16 := vp_lt n_100
                        refine th_aald hx hb hK hP 10 2 (Nat.lt_of_lt_of_le (by decide) hn) (sM_10 hT) rfl n_100 dX7_step_282 ?_
                        refine lv_iconst (v := 0) hx hb dX7_step_283 (by decide) ?_
                        refine th_iald hx hb hK hP (48 + (z267_6).toNatClampNeg) (lt_blk b_101 hn (by decide)) (hT.bbridge b_101).1 (rg_in (rg_c (v := 0) (lo := 0) (hi := 0) (by decide)) (by decide)) dX7_step_284 ?_
                        refine lv_iload_n hx hb dX7_step_285 rfl (lv_at hl 3 rfl) ?_
                        refine lv_icmp_ne (tgt := 312) hx hb dX7_step_286 (by decide) (fun (c_102 : ¬ ((ga (K267 (48 + (z267_6).toNatClampNeg)) ((0 : Int32)).toNatClampNeg) = z60_3)) => ?_) (fun (c_102 : (ga (K267 (48 + (z267_6).toNatClampNeg)) ((0 : Int32)).toNatClampNeg) = z60_3) => ?_)
                        · refine lv_iinc (v := z267_6 + 1) (lv' := [(6, .int (z267_6 + 1)), (5, .int (ga (C (24 + (z60_3).toNatClampNeg)) ((1 : Int32)).toNatClampNeg)), (4, .int 1), (3, .int z60_3), (2, .int (ga (C 14) ((2 : Int32)).toNatClampNeg)), (1, .int (ga (C 14) ((1 : Int32)).toNatClampNeg)), (0, .ref (a 0))]) hx hb dX7_step_312 hl (k := 0) rfl (by rfl) (by decide) rfl (fun ls hl => ?_)
                          refine lv_goto (tgt := 267) hx hb dX7_step_315 (by decide) ?_
                          exact ih_267 _ (hd_267 ▸ mu_up 16 (rn_ltu (u' := 15) (Int32.not_le.mp c_99) hz267_6 (fM_0_11 hT0) (by decide)) (by decide)) K267 (z267_6 + 1) _ _ ls rfl (rg_w (rg_add (lo := 1) (hi := 16) (rn_ltu (u' := 15) (Int32.not_le.mp c_99) hz267_6 (fM_0_11 hT0) (by decide)) (rg_c (v := 1) (lo := 1) (hi := 1) (by decide)) (by decide)) (by decide)) (fun A hA => by have h1 := (hx_267 A hA); exact h1) hT hF hLF_267 hP hD hS (lv_sub hl [0, 1, 2, 3, 4, 5, 6] rfl)
                        · refine lv_aload_n hx hb dX7_step_289 rfl (lv_at hl 6 rfl) ?_
                          refine lv_iload_n hx hb dX7_step_290 rfl (lv_at hl 5 rfl) ?_
                          refine lv_iload_n hx hb dX7_step_291 rfl (lv_at hl 4 rfl) ?_
                          refine lv_iload hx hb dX7_step_292 (lv_at hl 0 rfl) ?_
                          refine tq_V (As := [.int (ga (C 14) ((1 : Int32)).toNatClampNeg), .int (ga (C 14) ((2 : Int32)).toNatClampNeg), .int z267_6]) (rest := []) (ws := (oh_W n a K267)) ⟨hx, hb, hml, hown, htg⟩ (c_X7_needsOf l D E G a K267 n hn hT (ga (C 14) ((1 : Int32)).toNatClampNeg) (ga (C 14) ((2 : Int32)).toNatClampNeg) z267_6 (rg_w (tA_rdc (lo := 0) (hi := 4) (tM_14 hT0) (rg_in (rg_c (v := 1) (lo := 1) (hi := 1) (by decide)) (by decide)) (show _ = 1 by decide) (by decide)) (by decide)) (rg_w (rn_ltu (u' := 15) (Int32.not_le.mp c_99) hz267_6 (fM_0_11 hT0) (by decide)) (by decide)) (oh_posU (rg_w (tA_rdc (lo := 0) (hi := 4) (tM_14 hT0) (rg_in (rg_c (v := 1) (lo := 1) (hi := 1) (by decide)) (by decide)) (show _ = 1 by decide) (by decide)) (by decide)) (fun i hi => hLF_267.1 _ (inR_out hi (by decide)) (by omega)) (oh_posU (rg_w (tA_rdc (lo := 0) (hi := 4) (tM_14 hT0) (rg_in (rg_c (v := 1) (lo := 1) (hi := 1) (by decide)) (by decide)) (show _ = 1 by decide) (by decide)) (by decide)) (fun i hi => th_un e_96 (by omega)) (oh_posU (rg_w (tA_rdc (lo := 0) (hi := 4) (tM_14 hT0) (rg_in (rg_c (v := 1) (lo := 1) (hi := 1) (by decide)) (by decide)) (show _ = 1 by decide) (by decide)) (by decide)) (fun i hi => th_un e_93 (by omega)) (oh_posU (rg_w (tA_rdc (lo := 0) (hi := 4) (tM_14 hT0) (rg_in (rg_c (v := 1) (lo := 1) (hi := 1) (by decide)) (by decide)) (show _ = 1 by decide) (by decide)) (by decide)) (fun i hi => th_un e_90 (by omega)) (oh_posU (rg_w (tA_rdc (lo := 0) (hi := 4) (tM_14 hT0) (rg_in (rg_c (v := 1) (lo := 1) (hi := 1) (by decide)) (by decide)) (show _ = 1 by decide) (by decide)) (by decide)) (fun i hi => th_un e_85 (by omega)) (oh_posU (rg_w (tA_rdc (lo := 0) (hi := 4) (tM_14 hT0) (rg_in (rg_c (v := 1) (lo := 1) (hi := 1) (by decide)) (by decide)) (show _ = 1 by decide) (by decide)) (by decide)) (fun i hi => hLF_60.1 _ (inR_out hi (by decide)) (by omega)) (oh_posU (rg_w (tA_rdc (lo := 0) (hi := 4) (tM_14 hT0) (rg_in (rg_c (v := 1) (lo := 1) (hi := 1) (by decide)) (by decide)) (show _ = 1 by decide) (by decide)) (by decide)) (fun i hi => f_11.1 _ (inR_out hi (by decide)) (by omega)) (oh_posu hR.1 hT0 c_1))))))))) (cwV 3 htg (oh_gV q_1310 q_1312 q_53 q_73 q_1313) rfl rfl rfl pdVX7_needsOf ⟨Nat.le_of_ble_eq_true rfl, Nat.le_of_ble_eq_true rfl⟩) hK hP hG hS (va_recv hK hP (ci := 7) (q0 := 0) rfl (oh_wg (Nat.lt_of_lt_of_le (by decide) hn) (sM_0 hT))) rfl hl.1 rfl (Nat.le_of_ble_eq_true rfl) dX7_step_294 ⟨Nat.le_of_ble_eq_true rfl, Nat.le_of_ble_eq_true rfl⟩ (fun r_103 hq_104 => ?_)
                          refine lv_iconst (v := 1) hx hb dX7_step_297 (by decide) ?_
                          refine lv_icmp_ne (tgt := 312) hx hb dX7_step_298 (by decide) (fun (c_105 : ¬ (r_103 = 1)) => ?_) (fun (c_105 : r_103 = 1) => ?_)
                          · refine lv_iinc (v := z267_6 + 1) (lv' := [(6, .int (z267_6 + 1)), (5, .int (ga (C (24 + (z60_3).toNatClampNeg)) ((1 : Int32)).toNatClampNeg)), (4, .int 1), (3, .int z60_3), (2, .int (ga (C 14) ((2 : Int32)).toNatClampNeg)), (1, .int (ga (C 14) ((1 : Int32)).toNatClampNeg)), (0, .ref (a 0))]) hx hb dX7_step_312 hl (k := 0) rfl (by rfl) (by decide) rfl (fun ls hl => ?_)
                            refine lv_goto (tgt := 267) hx hb dX7_step_315 (by decide) ?_
                            exact ih_267 _ (hd_267 ▸ mu_up 16 (rn_ltu (u' := 15) (Int32.not_le.mp c_99) hz267_6 (fM_0_11 hT0) (by decide)) (by decide)) K267 (z267_6 + 1) _ _ ls rfl (rg_w (rg_add (lo := 1) (hi := 16) (rn_ltu (u' := 15) (Int32.not_le.mp c_99) hz267_6 (fM_0_11 hT0) (by decide)) (rg_c (v := 1) (lo := 1) (hi := 1) (by decide)) (by decide)) (by decide)) (fun A hA => by have h1 := (hx_267 A hA); exact h1) hT hF hLF_267 hP hD hS (lv_sub hl [0, 1, 2, 3, 4, 5, 6] rfl)
                          · refine lv_aload_n hx hb dX7_step_301 rfl (lv_at hl 6 rfl) ?_
                            refine va_get (D := D) (ci := 7) (v := .ref (a 10)) (C := RX7) (T := TX7) (N := 29) hx hb htg ig_7 hown hK hP 0 (oh_wg (Nat.lt_of_lt_of_le (by decide) hn) (sM_0 hT)) rfl 12 (by decide) (htg _ q_985) (fun _ h9 => h9) rfl dX7_step_302 ?_
                            refine lv_iload hx hb dX7_step_305 (lv_at hl 0 rfl) ?_
                            have n_106 : vp_in z267_6 16 := (rg_in (rn_ltu (u' := 15) (Int32.not_le.mp c_99) hz267_6 (fM_0_11 hT0) (by decide)) (by decide))
                            have b_107 : (z267_6).toNatClampNeg < 16 := vp_lt n_106
                            refine th_aald hx hb hK hP 10 2 (Nat.lt_of_lt_of_le (by decide) hn) (sM_10 hT) rfl n_106 dX7_step_307 ?_
                            refine lv_bipush (v := 7) hx hb dX7_step_308 (by decide) ?_
                            refine lv_iconst (v := 1) hx hb dX7_step_310 (by decide) ?_
                            refine th_iast (T := TyM a E) (Rl := fr [(8, 9), (14, 15), (15, 16), (48, 64)] [19] C) hx hb hK hP hD hS (48 + (z267_6).toNatClampNeg) (lt_blk b_107 hn (by decide)) (hT.bbridge b_107).1 (rg_in (rg_c (v := 7) (lo := 7) (hi := 7) (by decide)) (by decide)) (hT.upbridge b_107 (tA_upd (hT.bbridge b_107) tA_any)) (fr_st hF (by omega) (inR_of (p := (48, 64)) (by decide) (by show 48 ≤ _; omega) (by show _ < 64; omega))) dX7_step_311 (fun C_108 H locs e_109 hT hF hP hD hS => ?_)
                            have t_110 := hT
                            refine lv_iinc (v := z267_6 + 1) (lv' := [(6, .int (z267_6 + 1)), (5, .int (ga (C (24 + (z60_3).toNatClampNeg)) ((1 : Int32)).toNatClampNeg)), (4, .int 1), (3, .int z60_3), (2, .int (ga (C 14) ((2 : Int32)).toNatClampNeg)), (1, .int (ga (C 14) ((1 : Int32)).toNatClampNeg)), (0, .ref (a 0))]) hx hb dX7_step_312 hl (k := 0) rfl (by rfl) (by decide) rfl (fun ls hl => ?_)
                            refine lv_goto (tgt := 267) hx hb dX7_step_315 (by decide) ?_
                            exact ih_267 _ (hd_267 ▸ mu_up 16 (rn_ltu (u' := 15) (Int32.not_le.mp c_99) hz267_6 (fM_0_11 hT0) (by decide)) (by decide)) C_108 (z267_6 + 1) _ _ ls rfl (rg_w (rg_add (lo := 1) (hi := 16) (rn_ltu (u' := 15) (Int32.not_le.mp c_99) hz267_6 (fM_0_11 hT0) (by decide)) (rg_c (v := 1) (lo := 1) (hi := 1) (by decide)) (by decide)) (by decide)) (fun A hA => by have h1 := (hx_267 A hA); have h2 := absM_st (t := 1) t_98 h1 (by decide) (show (z267_6).toNatClampNeg < 16 from b_107) e_109; have h3 := absM_vis h2; exact h3) hT hF (fr_ste hLF_267 e_109 (by omega) (inR_of (p := (48, 64)) (by decide) (by show 48 ≤ _; omega) (by show _ < 64; omega))) hP hD hS (lv_sub hl [0, 1, 2, 3, 4, 5, 6] rfl)
                    exact L_267 _ C_95 0 _ _ ls rfl (rg_w (rg_c (v := 0) (lo := 0) (hi := 0) (by decide)) (by decide)) (fun A hA => by have h1 := (hx_60 A hA); have h2 := absM_fr h1 t_13 (show fr [(14, 15)] [19] K60 C_95 from (fr_ste (fr_ste (fr_ste (fr_fde fr_rf e_85 (sM_0 t_13) (by decide)) e_90 (by decide) (by decide)) e_93 (by decide) (by decide)) e_96 (by decide) (by decide))) (by decide) (by decide) (by decide); exact h2) hT hF fr_rf hP hD hS (lv_sub hl [0, 1, 2, 3, 4, 5, 6] rfl)
            · refine lv_aload_n hx hb dX7_step_103 rfl (lv_at hl 3 rfl) ?_
              refine va_get (D := D) (ci := 7) (v := .ref (a 9)) (C := RX7) (T := TX7) (N := 29) hx hb htg ig_7 hown hK hP 0 (oh_wg (Nat.lt_of_lt_of_le (by decide) hn) (sM_0 hT)) rfl 10 (by decide) (htg _ q_983) (fun _ h9 => h9) rfl dX7_step_104 ?_
              refine lv_iload_n hx hb dX7_step_107 rfl (lv_at hl 0 rfl) ?_
              have n_111 : vp_in z60_3 24 := (rg_in (rn_ltu (u' := 23) (Int32.not_le.mp c_14) hz60_3 (fM_0_9 hT0) (by decide)) (by decide))
              have b_112 : (z60_3).toNatClampNeg < 24 := vp_lt n_111
              refine th_aald hx hb hK hP 9 2 (Nat.lt_of_lt_of_le (by decide) hn) (sM_9 hT) rfl n_111 dX7_step_108 ?_
              refine lv_iconst (v := 1) hx hb dX7_step_109 (by decide) ?_
              refine th_iald hx hb hK hP (24 + (z60_3).toNatClampNeg) (lt_blk b_112 hn (by decide)) (Eq.trans (Eq.trans (hLF_60.1 (24 + (z60_3).toNatClampNeg) (by have h9 := b_112; exact inR_out h9 (by decide)) (by omega)) (f_11.1 (24 + (z60_3).toNatClampNeg) (by have h9 := b_112; exact inR_out h9 (by decide)) (by omega))) (hT0.broad b_112).1) (rg_in (rg_c (v := 1) (lo := 1) (hi := 1) (by decide)) (by decide)) dX7_step_110 ?_
              refine lv_aload_n hx hb dX7_step_111 rfl (lv_at hl 3 rfl) ?_
              refine va_get (D := D) (ci := 7) (v := .ref (a 14)) (C := RX7) (T := TX7) (N := 29) hx hb htg ig_7 hown hK hP 0 (oh_wg (Nat.lt_of_lt_of_le (by decide) hn) (sM_0 hT)) rfl 18 (by decide) (htg _ q_991) (fun _ h9 => h9) rfl dX7_step_112 ?_
              refine lv_iconst (v := 3) hx hb dX7_step_115 (by decide) ?_
              refine th_iald hx hb hK hP 14 (Nat.lt_of_lt_of_le (by decide) hn) (Eq.trans (Eq.trans (hLF_60.1 14 rfl (by decide)) (f_11.1 14 rfl (by decide))) (sM_14 hT0)) (rg_in (rg_c (v := 3) (lo := 3) (hi := 3) (by decide)) (by decide)) dX7_step_116 ?_
              refine lv_icmp_ne (tgt := 124) hx hb dX7_step_117 (by decide) (fun (c_113 : ¬ ((ga (C (24 + (z60_3).toNatClampNeg)) ((1 : Int32)).toNatClampNeg) = (ga (C 14) ((3 : Int32)).toNatClampNeg))) => ?_) (fun (c_113 : (ga (C (24 + (z60_3).toNatClampNeg)) ((1 : Int32)).toNatClampNeg) = (ga (C 14) ((3 : Int32)).toNatClampNeg)) => ?_)
              · refine lv_iconst (v := 0) hx hb dX7_step_124 (by decide) ?_
                refine lv_istore (lv' := [(4, .int 0), (3, .int z60_3), (2, .int (ga (C 14) ((2 : Int32)).toNatClampNeg)), (1, .int (ga (C 14) ((1 : Int32)).toNatClampNeg)), (0, .ref (a 0))]) hx hb dX7_step_125 hl (by decide) rfl (fun ls hl => ?_)
                refine lv_aload_n hx hb dX7_step_127 rfl (lv_at hl 4 rfl) ?_
                refine va_get (D := D) (ci := 7) (v := .ref (a 9)) (C := RX7) (T := TX7) (N := 29) hx hb htg ig_7 hown hK hP 0 (oh_wg (Nat.lt_of_lt_of_le (by decide) hn) (sM_0 hT)) rfl 10 (by decide) (htg _ q_983) (fun _ h9 => h9) rfl dX7_step_128 ?_
                refine lv_iload_n hx hb dX7_step_131 rfl (lv_at hl 1 rfl) ?_
                have n_114 : vp_in z60_3 24 := (rg_in (rn_ltu (u' := 23) (Int32.not_le.mp c_14) hz60_3 (fM_0_9 hT0) (by decide)) (by decide))
                have b_115 : (z60_3).toNatClampNeg < 24 := vp_lt n_114
                refine th_aald hx hb hK hP 9 2 (Nat.lt_of_lt_of_le (by decide) hn) (sM_9 hT) rfl n_114 dX7_step_132 ?_
                refine lv_iconst (v := 0) hx hb dX7_step_133 (by decide) ?_
                refine th_iald hx hb hK hP (24 + (z60_3).toNatClampNeg) (lt_blk b_115 hn (by decide)) (Eq.trans (Eq.trans (hLF_60.1 (24 + (z60_3).toNatClampNeg) (by have h9 := b_115; exact inR_out h9 (by decide)) (by omega)) (f_11.1 (24 + (z60_3).toNatClampNeg) (by have h9 := b_115; exact inR_out h9 (by decide)) (by omega))) (hT0.broad b_115).1) (rg_in (rg_c (v := 0) (lo := 0) (hi := 0) (by decide)) (by decide)) dX7_step_134 ?_
                refine lv_aload_n hx hb dX7_step_135 rfl (lv_at hl 4 rfl) ?_
                refine va_get (D := D) (ci := 7) (v := .ref (a 14)) (C := RX7) (T := TX7) (N := 29) hx hb htg ig_7 hown hK hP 0 (oh_wg (Nat.lt_of_lt_of_le (by decide) hn) (sM_0 hT)) rfl 18 (by decide) (htg _ q_991) (fun _ h9 => h9) rfl dX7_step_136 ?_
                refine lv_iconst (v := 3) hx hb dX7_step_139 (by decide) ?_
                refine th_iald hx hb hK hP 14 (Nat.lt_of_lt_of_le (by decide) hn) (Eq.trans (Eq.trans (hLF_60.1 14 rfl (by decide)) (f_11.1 14 rfl (by decide))) (sM_14 hT0)) (rg_in (rg_c (v := 3) (lo := 3) (hi := 3) (by decide)) (by decide)) dX7_step_140 ?_
                refine lv_icmp_ne (tgt := 155) hx hb dX7_step_141 (by decide) (fun (c_116 : ¬ ((ga (C (24 + (z60_3).toNatClampNeg)) ((0 : Int32)).toNatClampNeg) = (ga (C 14) ((3 : Int32)).toNatClampNeg))) => ?_) (fun (c_116 : (ga (C (24 + (z60_3).toNatClampNeg)) ((0 : Int32)).toNatClampNeg) = (ga (C 14) ((3 : Int32)).toNatClampNeg)) => ?_)
                · refine lv_aload_n hx hb dX7_step_155 rfl (lv_at hl 4 rfl) ?_
                  refine va_get (D := D) (ci := 7) (v := .ref (a 9)) (C := RX7) (T := TX7) (N := 29) hx hb htg ig_7 hown hK hP 0 (oh_wg (Nat.lt_of_lt_of_le (by decide) hn) (sM_0 hT)) rfl 10 (by decide) (htg _ q_983) (fun _ h9 => h9) rfl dX7_step_156 ?_
                  refine lv_iload_n hx hb dX7_step_159 rfl (lv_at hl 1 rfl) ?_
                  have n_117 : vp_in z60_3 24 := (rg_in (rn_ltu (u' := 23) (Int32.not_le.mp c_14) hz60_3 (fM_0_9 hT0) (by decide)) (by decide))
                  have b_118 : (z60_3).toNatClampNeg < 24 := vp_lt n_117
                  refine th_aald hx hb hK hP 9 2 (Nat.lt_of_lt_of_le (by decide) hn) (sM_9 hT) rfl n_117 dX7_step_160 ?_
                  refine lv_iconst (v := 0) hx hb dX7_step_161 (by decide) ?_
                  refine th_iald hx hb hK hP (24 + (z60_3).toNatClampNeg) (lt_blk b_118 hn (by decide)) (Eq.trans (Eq.trans (hLF_60.1 (24 + (z60_3).toNatClampNeg) (by have h9 := b_118; exact inR_out h9 (by decide)) (by omega)) (f_11.1 (24 + (z60_3).toNatClampNeg) (by have h9 := b_118; exact inR_out h9 (by decide)) (by omega))) (hT0.broad b_118).1) (rg_in (rg_c (v := 0) (lo := 0) (hi := 0) (by decide)) (by decide)) dX7_step_162 ?_
                  refine lv_istore (lv' := [(5, .int (ga (C (24 + (z60_3).toNatClampNeg)) ((0 : Int32)).toNatClampNeg)), (4, .int 0), (3, .int z60_3), (2, .int (ga (C 14) ((2 : Int32)).toNatClampNeg)), (1, .int (ga (C 14) ((1 : Int32)).toNatClampNeg)), (0, .ref (a 0))]) hx hb dX7_step_163 hl (by decide) rfl (fun ls hl => ?_)
                  refine lv_iload hx hb dX7_step_165 (lv_at hl 1 rfl) ?_
                  refine lv_if_eq (tgt := 320) hx hb dX7_step_167 (by decide) (fun _ => ?_) (fun c => absurd (show (0 : Int32) = 0 from by decide) c)
                  refine lv_iinc (v := z60_3 + 1) (lv' := [(3, .int (z60_3 + 1)), (5, .int (ga (C (24 + (z60_3).toNatClampNeg)) ((0 : Int32)).toNatClampNeg)), (4, .int 0), (2, .int (ga (C 14) ((2 : Int32)).toNatClampNeg)), (1, .int (ga (C 14) ((1 : Int32)).toNatClampNeg)), (0, .ref (a 0))]) hx hb dX7_step_320 hl (k := 2) rfl (by rfl) (by decide) rfl (fun ls hl => ?_)
                  refine lv_goto (tgt := 60) hx hb dX7_step_323 (by decide) ?_
                  exact ih_60 _ (hd_60 ▸ mu_up 24 (rn_ltu (u' := 23) (Int32.not_le.mp c_14) hz60_3 (fM_0_9 hT0) (by decide)) (by decide)) K60 (z60_3 + 1) _ _ ls rfl (rg_w (rg_add (lo := 1) (hi := 24) (rn_ltu (u' := 23) (Int32.not_le.mp c_14) hz60_3 (fM_0_9 hT0) (by decide)) (rg_c (v := 1) (lo := 1) (hi := 1) (by decide)) (by decide)) (by decide)) (fun A hA => by have h1 := (hx_60 A hA); exact h1) hT hF hLF_60 hP hD hS (lv_sub hl [0, 3, 4, 5] rfl)
                · refine lv_aload_n hx hb dX7_step_144 rfl (lv_at hl 4 rfl) ?_
                  refine va_get (D := D) (ci := 7) (v := .ref (a 9)) (C := RX7) (T := TX7) (N := 29) hx hb htg ig_7 hown hK hP 0 (oh_wg (Nat.lt_of_lt_of_le (by decide) hn) (sM_0 hT)) rfl 10 (by decide) (htg _ q_983) (fun _ h9 => h9) rfl dX7_step_145 ?_
                  refine lv_iload_n hx hb dX7_step_148 rfl (lv_at hl 1 rfl) ?_
                  have n_119 : vp_in z60_3 24 := (rg_in (rn_ltu (u' := 23) (Int32.not_le.mp c_14) hz60_3 (fM_0_9 hT0) (by decide)) (by decide))
                  have b_120 : (z60_3).toNatClampNeg < 24 := vp_lt n_119
                  refine th_aald hx hb hK hP 9 2 (Nat.lt_of_lt_of_le (by decide) hn) (sM_9 hT) rfl n_119 dX7_step_149 ?_
                  refine lv_iconst (v := 1) hx hb dX7_step_150 (by decide) ?_
                  refine th_iald hx hb hK hP (24 + (z60_3).toNatClampNeg) (lt_blk b_120 hn (by decide)) (Eq.trans (Eq.trans (hLF_60.1 (24 + (z60_3).toNatClampNeg) (by have h9 := b_120; exact inR_out h9 (by decide)) (by omega)) (f_11.1 (24 + (z60_3).toNatClampNeg) (by have h9 := b_120; exact inR_out h9 (by decide)) (by omega))) (hT0.broad b_120).1) (rg_in (rg_c (v := 1) (lo := 1) (hi := 1) (by decide)) (by decide)) dX7_step_151 ?_
                  refine lv_goto (tgt := 163) hx hb dX7_step_152 (by decide) ?_
                  refine lv_istore (lv' := [(5, .int (ga (C (24 + (z60_3).toNatClampNeg)) ((1 : Int32)).toNatClampNeg)), (4, .int 0), (3, .int z60_3), (2, .int (ga (C 14) ((2 : Int32)).toNatClampNeg)), (1, .int (ga (C 14) ((1 : Int32)).toNatClampNeg)), (0, .ref (a 0))]) hx hb dX7_step_163 hl (by decide) rfl (fun ls hl => ?_)
                  refine lv_iload hx hb dX7_step_165 (lv_at hl 1 rfl) ?_
                  refine lv_if_eq (tgt := 320) hx hb dX7_step_167 (by decide) (fun _ => ?_) (fun c => absurd (show (0 : Int32) = 0 from by decide) c)
                  refine lv_iinc (v := z60_3 + 1) (lv' := [(3, .int (z60_3 + 1)), (5, .int (ga (C (24 + (z60_3).toNatClampNeg)) ((1 : Int32)).toNatClampNeg)), (4, .int 0), (2, .int (ga (C 14) ((2 : Int32)).toNatClampNeg)), (1, .int (ga (C 14) ((1 : Int32)).toNatClampNeg)), (0, .ref (a 0))]) hx hb dX7_step_320 hl (k := 2) rfl (by rfl) (by decide) rfl (fun ls hl => ?_)
                  refine lv_goto (tgt := 60) hx hb dX7_step_323 (by decide) ?_
                  exact ih_60 _ (hd_60 ▸ mu_up 24 (rn_ltu (u' := 23) (Int32.not_le.mp c_14) hz60_3 (fM_0_9 hT0) (by decide)) (by decide)) K60 (z60_3 + 1) _ _ ls rfl (rg_w (rg_add (lo := 1) (hi := 24) (rn_ltu (u' := 23) (Int32.not_le.mp c_14) hz60_3 (fM_0_9 hT0) (by decide)) (rg_c (v := 1) (lo := 1) (hi := 1) (by decide)) (by decide)) (by decide)) (fun A hA => by have h1 := (hx_60 A hA); exact h1) hT hF hLF_60 hP hD hS (lv_sub hl [0, 3, 4, 5] rfl)
              · refine lv_iconst (v := 1) hx hb dX7_step_120 (by decide) ?_
                refine lv_goto (tgt := 125) hx hb dX7_step_121 (by decide) ?_
                refine lv_istore (lv' := [(4, .int 1), (3, .int z60_3), (2, .int (ga (C 14) ((2 : Int32)).toNatClampNeg)), (1, .int (ga (C 14) ((1 : Int32)).toNatClampNeg)), (0, .ref (a 0))]) hx hb dX7_step_125 hl (by decide) rfl (fun ls hl => ?_)
                refine lv_aload_n hx hb dX7_step_127 rfl (lv_at hl 4 rfl) ?_
                refine va_get (D := D) (ci := 7) (v := .ref (a 9)) (C := RX7) (T := TX7) (N := 29) hx hb htg ig_7 hown hK hP 0 (oh_wg (Nat.lt_of_lt_of_le (by decide) hn) (sM_0 hT)) rfl 10 (by decide) (htg _ q_983) (fun _ h9 => h9) rfl dX7_step_128 ?_
                refine lv_iload_n hx hb dX7_step_131 rfl (lv_at hl 1 rfl) ?_
                have n_121 : vp_in z60_3 24 := (rg_in (rn_ltu (u' := 23) (Int32.not_le.mp c_14) hz60_3 (fM_0_9 hT0) (by decide)) (by decide))
                have b_122 : (z60_3).toNatClampNeg < 24 := vp_lt n_121
                refine th_aald hx hb hK hP 9 2 (Nat.lt_of_lt_of_le (by decide) hn) (sM_9 hT) rfl n_121 dX7_step_132 ?_
                refine lv_iconst (v := 0) hx hb dX7_step_133 (by decide) ?_
                refine th_iald hx hb hK hP (24 + (z60_3).toNatClampNeg) (lt_blk b_122 hn (by decide)) (Eq.trans (Eq.trans (hLF_60.1 (24 + (z60_3).toNatClampNeg) (by have h9 := b_122; exact inR_out h9 (by decide)) (by omega)) (f_11.1 (24 + (z60_3).toNatClampNeg) (by have h9 := b_122; exact inR_out h9 (by decide)) (by omega))) (hT0.broad b_122).1) (rg_in (rg_c (v := 0) (lo := 0) (hi := 0) (by decide)) (by decide)) dX7_step_134 ?_
                refine lv_aload_n hx hb dX7_step_135 rfl (lv_at hl 4 rfl) ?_
                refine va_get (D := D) (ci := 7) (v := .ref (a 14)) (C := RX7) (T := TX7) (N := 29) hx hb htg ig_7 hown hK hP 0 (oh_wg (Nat.lt_of_lt_of_le (by decide) hn) (sM_0 hT)) rfl 18 (by decide) (htg _ q_991) (fun _ h9 => h9) rfl dX7_step_136 ?_
                refine lv_iconst (v := 3) hx hb dX7_step_139 (by decide) ?_
                refine th_iald hx hb hK hP 14 (Nat.lt_of_lt_of_le (by decide) hn) (Eq.trans (Eq.trans (hLF_60.1 14 rfl (by decide)) (f_11.1 14 rfl (by decide))) (sM_14 hT0)) (rg_in (rg_c (v := 3) (lo := 3) (hi := 3) (by decide)) (by decide)) dX7_step_140 ?_
                refine lv_icmp_ne (tgt := 155) hx hb dX7_step_141 (by decide) (fun (c_123 : ¬ ((ga (C (24 + (z60_3).toNatClampNeg)) ((0 : Int32)).toNatClampNeg) = (ga (C 14) ((3 : Int32)).toNatClampNeg))) => ?_) (fun (c_123 : (ga (C (24 + (z60_3).toNatClampNeg)) ((0 : Int32)).toNatClampNeg) = (ga (C 14) ((3 : Int32)).toNatClampNeg)) => ?_)
                · refine lv_aload_n hx hb dX7_step_155 rfl (lv_at hl 4 rfl) ?_
                  refine va_get (D := D) (ci := 7) (v := .ref (a 9)) (C := RX7) (T := TX7) (N := 29) hx hb htg ig_7 hown hK hP 0 (oh_wg (Nat.lt_of_lt_of_le (by decide) hn) (sM_0 hT)) rfl 10 (by decide) (htg _ q_983) (fun _ h9 => h9) rfl dX7_step_156 ?_
                  refine lv_iload_n hx hb dX7_step_159 rfl (lv_at hl 1 rfl) ?_
                  have n_124 : vp_in z60_3 24 := (rg_in (rn_ltu (u' := 23) (Int32.not_le.mp c_14) hz60_3 (fM_0_9 hT0) (by decide)) (by decide))
                  have b_125 : (z60_3).toNatClampNeg < 24 := vp_lt n_124
                  refine th_aald hx hb hK hP 9 2 (Nat.lt_of_lt_of_le (by decide) hn) (sM_9 hT) rfl n_124 dX7_step_160 ?_
                  refine lv_iconst (v := 0) hx hb dX7_step_161 (by decide) ?_
                  refine th_iald hx hb hK hP (24 + (z60_3).toNatClampNeg) (lt_blk b_125 hn (by decide)) (Eq.trans (Eq.trans (hLF_60.1 (24 + (z60_3).toNatClampNeg) (by have h9 := b_125; exact inR_out h9 (by decide)) (by omega)) (f_11.1 (24 + (z60_3).toNatClampNeg) (by have h9 := b_125; exact inR_out h9 (by decide)) (by omega))) (hT0.broad b_125).1) (rg_in (rg_c (v := 0) (lo := 0) (hi := 0) (by decide)) (by decide)) dX7_step_162 ?_
                  refine lv_istore (lv' := [(5, .int (ga (C (24 + (z60_3).toNatClampNeg)) ((0 : Int32)).toNatClampNeg)), (4, .int 1), (3, .int z60_3), (2, .int (ga (C 14) ((2 : Int32)).toNatClampNeg)), (1, .int (ga (C 14) ((1 : Int32)).toNatClampNeg)), (0, .ref (a 0))]) hx hb dX7_step_163 hl (by decide) rfl (fun ls hl => ?_)
                  refine lv_iload hx hb dX7_step_165 (lv_at hl 1 rfl) ?_
                  refine lv_if_eq (tgt := 320) hx hb dX7_step_167 (by decide) (fun c => absurd c (show ¬ ((1 : Int32) = 0) from by decide)) (fun _ => ?_)
                  refine lv_aload_n hx hb dX7_step_170 rfl (lv_at hl 5 rfl) ?_
                  refine lv_iload_n hx hb dX7_step_171 rfl (lv_at hl 4 rfl) ?_
                  refine lv_iload_n hx hb dX7_step_172 rfl (lv_at hl 3 rfl) ?_
                  refine lv_iload_n hx hb dX7_step_173 rfl (lv_at hl 2 rfl) ?_
                  refine tq_V (As := [.int (ga (C 14) ((1 : Int32)).toNatClampNeg), .int (ga (C 14) ((2 : Int32)).toNatClampNeg), .int z60_3]) (rest := []) (ws := (oh_W n a K60)) ⟨hx, hb, hml, hown, htg⟩ (c_X7_goesOf l D E G a K60 n hn hT (ga (C 14) ((1 : Int32)).toNatClampNeg) (ga (C 14) ((2 : Int32)).toNatClampNeg) z60_3 (rg_w (tA_rdc (lo := 0) (hi := 4) (tM_14 hT0) (rg_in (rg_c (v := 1) (lo := 1) (hi := 1) (by decide)) (by decide)) (show _ = 1 by decide) (by decide)) (by decide)) (rg_w (rn_ltu (u' := 23) (Int32.not_le.mp c_14) hz60_3 (fM_0_9 hT0) (by decide)) (by decide)) (oh_posU (rg_w (tA_rdc (lo := 0) (hi := 4) (tM_14 hT0) (rg_in (rg_c (v := 1) (lo := 1) (hi := 1) (by decide)) (by decide)) (show _ = 1 by decide) (by decide)) (by decide)) (fun i hi => hLF_60.1 _ (inR_out hi (by decide)) (by omega)) (oh_posU (rg_w (tA_rdc (lo := 0) (hi := 4) (tM_14 hT0) (rg_in (rg_c (v := 1) (lo := 1) (hi := 1) (by decide)) (by decide)) (show _ = 1 by decide) (by decide)) (by decide)) (fun i hi => f_11.1 _ (inR_out hi (by decide)) (by omega)) (oh_posu hR.1 hT0 c_1)))) (cwV 3 htg (oh_gV q_1318 q_1320 q_54 q_73 q_1321) rfl rfl rfl pdVX7_goesOf ⟨Nat.le_of_ble_eq_true rfl, Nat.le_of_ble_eq_true rfl⟩) hK hP hG hS (va_recv hK hP (ci := 7) (q0 := 0) rfl (oh_wg (Nat.lt_of_lt_of_le (by decide) hn) (sM_0 hT))) rfl hl.1 rfl (Nat.le_of_ble_eq_true rfl) dX7_step_174 ⟨Nat.le_of_ble_eq_true rfl, Nat.le_of_ble_eq_true rfl⟩ (fun r_126 hq_127 => ?_)
                  refine lv_if_eq (tgt := 320) hx hb dX7_step_177 (by decide) (fun (c_128 : r_126 = 0) => ?_) (fun (c_128 : ¬ (r_126 = 0)) => ?_)
                  · refine lv_iinc (v := z60_3 + 1) (lv' := [(3, .int (z60_3 + 1)), (5, .int (ga (C (24 + (z60_3).toNatClampNeg)) ((0 : Int32)).toNatClampNeg)), (4, .int 1), (2, .int (ga (C 14) ((2 : Int32)).toNatClampNeg)), (1, .int (ga (C 14) ((1 : Int32)).toNatClampNeg)), (0, .ref (a 0))]) hx hb dX7_step_320 hl (k := 2) rfl (by rfl) (by decide) rfl (fun ls hl => ?_)
                    refine lv_goto (tgt := 60) hx hb dX7_step_323 (by decide) ?_
                    exact ih_60 _ (hd_60 ▸ mu_up 24 (rn_ltu (u' := 23) (Int32.not_le.mp c_14) hz60_3 (fM_0_9 hT0) (by decide)) (by decide)) K60 (z60_3 + 1) _ _ ls rfl (rg_w (rg_add (lo := 1) (hi := 24) (rn_ltu (u' := 23) (Int32.not_le.mp c_14) hz60_3 (fM_0_9 hT0) (by decide)) (rg_c (v := 1) (lo := 1) (hi := 1) (by decide)) (by decide)) (by decide)) (fun A hA => by have h1 := (hx_60 A hA); exact h1) hT hF hLF_60 hP hD hS (lv_sub hl [0, 3, 4, 5] rfl)
                  · refine lv_aload_n hx hb dX7_step_180 rfl (lv_at hl 5 rfl) ?_
                    refine lv_iload_n hx hb dX7_step_181 rfl (lv_at hl 4 rfl) ?_
                    refine lv_iload_n hx hb dX7_step_182 rfl (lv_at hl 3 rfl) ?_
                    refine lv_iload_n hx hb dX7_step_183 rfl (lv_at hl 2 rfl) ?_
                    refine lv_iconst (v := 1) hx hb dX7_step_184 (by decide) ?_
                    refine tq_V (As := [.int (ga (C 14) ((1 : Int32)).toNatClampNeg), .int (ga (C 14) ((2 : Int32)).toNatClampNeg), .int z60_3, .int 1]) (rest := []) (ws := (oh_W n a K60)) ⟨hx, hb, hml, hown, htg⟩ (c_X7_coinOf l D E G a K60 n hn hT (ga (C 14) ((1 : Int32)).toNatClampNeg) (ga (C 14) ((2 : Int32)).toNatClampNeg) z60_3 (1 : Int32) (rg_w (tA_rdc (lo := 0) (hi := 4) (tM_14 hT0) (rg_in (rg_c (v := 1) (lo := 1) (hi := 1) (by decide)) (by decide)) (show _ = 1 by decide) (by decide)) (by decide)) (rg_w (rn_ltu (u' := 23) (Int32.not_le.mp c_14) hz60_3 (fM_0_9 hT0) (by decide)) (by decide)) (oh_posU (rg_w (tA_rdc (lo := 0) (hi := 4) (tM_14 hT0) (rg_in (rg_c (v := 1) (lo := 1) (hi := 1) (by decide)) (by decide)) (show _ = 1 by decide) (by decide)) (by decide)) (fun i hi => hLF_60.1 _ (inR_out hi (by decide)) (by omega)) (oh_posU (rg_w (tA_rdc (lo := 0) (hi := 4) (tM_14 hT0) (rg_in (rg_c (v := 1) (lo := 1) (hi := 1) (by decide)) (by decide)) (show _ = 1 by decide) (by decide)) (by decide)) (fun i hi => f_11.1 _ (inR_out hi (by decide)) (by omega)) (oh_posu hR.1 hT0 c_1)))) (cwV 4 htg (oh_gV q_1326 q_1328 q_56 q_73 q_1329) rfl rfl rfl pdVX7_coinOf ⟨Nat.le_of_ble_eq_true rfl, Nat.le_of_ble_eq_true rfl⟩) hK hP hG hS (va_recv hK hP (ci := 7) (q0 := 0) rfl (oh_wg (Nat.lt_of_lt_of_le (by decide) hn) (sM_0 hT))) rfl hl.1 rfl (Nat.le_of_ble_eq_true rfl) dX7_step_185 ⟨Nat.le_of_ble_eq_true rfl, Nat.le_of_ble_eq_true rfl⟩ (fun r_129 hq_130 => ?_)
                    refine lv_i2l (v := Int32.toInt64 r_129) hx hb dX7_step_188 (by rfl) ?_
                    refine lv_aload_n hx hb dX7_step_189 rfl (lv_at hl 5 rfl) ?_
                    refine va_get (D := D) (ci := 7) (v := .ref (a 15)) (C := RX7) (T := TX7) (N := 29) hx hb htg ig_7 hown hK hP 0 (oh_wg (Nat.lt_of_lt_of_le (by decide) hn) (sM_0 hT)) rfl 27 (by decide) (htg _ q_1000) (fun _ h9 => h9) rfl dX7_step_190 ?_
                    refine lv_iload hx hb dX7_step_193 (lv_at hl 0 rfl) ?_
                    have n_131 : vp_in (ga (C (24 + (z60_3).toNatClampNeg)) ((0 : Int32)).toNatClampNeg) 16 := (rg_in (tA_rdc (lo := 0) (hi := 15) (hT0.broad b_125) (rg_in (rg_c (v := 0) (lo := 0) (hi := 0) (by decide)) (by decide)) (show _ = 0 by decide) (by decide)) (by decide))
                    refine th_lald hx hb hK hP 15 (Nat.lt_of_lt_of_le (by decide) hn) (Eq.trans (hLF_60.1 15 rfl (by decide)) (sM_15 t_12)) n_131 dX7_step_195 ?_
                    refine lv_ladd hx hb dX7_step_196 ?_
                    refine lv_aload_n hx hb dX7_step_197 rfl (lv_at hl 5 rfl) ?_
                    refine va_get (D := D) (ci := 7) (v := .ref (a 15)) (C := RX7) (T := TX7) (N := 29) hx hb htg ig_7 hown hK hP 0 (oh_wg (Nat.lt_of_lt_of_le (by decide) hn) (sM_0 hT)) rfl 27 (by decide) (htg _ q_1000) (fun _ h9 => h9) rfl dX7_step_198 ?_
                    refine lv_aload_n hx hb dX7_step_201 rfl (lv_at hl 5 rfl) ?_
                    refine va_get (D := D) (ci := 7) (v := .ref (a 14)) (C := RX7) (T := TX7) (N := 29) hx hb htg ig_7 hown hK hP 0 (oh_wg (Nat.lt_of_lt_of_le (by decide) hn) (sM_0 hT)) rfl 18 (by decide) (htg _ q_991) (fun _ h9 => h9) rfl dX7_step_202 ?_
                    refine lv_iconst (v := 3) hx hb dX7_step_205 (by decide) ?_
                    refine th_iald hx hb hK hP 14 (Nat.lt_of_lt_of_le (by decide) hn) (Eq.trans (Eq.trans (hLF_60.1 14 rfl (by decide)) (f_11.1 14 rfl (by decide))) (sM_14 hT0)) (rg_in (rg_c (v := 3) (lo := 3) (hi := 3) (by decide)) (by decide)) dX7_step_206 ?_
                    have n_132 : vp_in (ga (C 14) ((3 : Int32)).toNatClampNeg) 16 := (rg_in (rn_eq c_113.symm (tA_rdc (lo := 0) (hi := 15) (hT0.broad b_112) (rg_in (rg_c (v := 1) (lo := 1) (hi := 1) (by decide)) (by decide)) (show _ = 1 by decide) (by decide))) (by decide))
                    refine th_lald hx hb hK hP 15 (Nat.lt_of_lt_of_le (by decide) hn) (Eq.trans (hLF_60.1 15 rfl (by decide)) (sM_15 t_12)) n_132 dX7_step_207 ?_
                    refine W.lcmp hx hb dX7_step_208 ?_
                    refine lv_if_ne (tgt := 320) hx hb dX7_step_209 (by decide) (fun (c_133 : ¬ ((lg_cmp ((Int32.toInt64 r_129) + (gb (C_9 15) (ga (C (24 + (z60_3).toNatClampNeg)) ((0 : Int32)).toNatClampNeg).toNatClampNeg)) (gb (C_9 15) (ga (C 14) ((3 : Int32)).toNatClampNeg).toNatClampNeg)) = 0)) => ?_) (fun (c_133 : (lg_cmp ((Int32.toInt64 r_129) + (gb (C_9 15) (ga (C (24 + (z60_3).toNatClampNeg)) ((0 : Int32)).toNatClampNeg).toNatClampNeg)) (gb (C_9 15) (ga (C 14) ((3 : Int32)).toNatClampNeg).toNatClampNeg)) = 0) => ?_)
                    · refine lv_iinc (v := z60_3 + 1) (lv' := [(3, .int (z60_3 + 1)), (5, .int (ga (C (24 + (z60_3).toNatClampNeg)) ((0 : Int32)).toNatClampNeg)), (4, .int 1), (2, .int (ga (C 14) ((2 : Int32)).toNatClampNeg)), (1, .int (ga (C 14) ((1 : Int32)).toNatClampNeg)), (0, .ref (a 0))]) hx hb dX7_step_320 hl (k := 2) rfl (by rfl) (by decide) rfl (fun ls hl => ?_)
                      refine lv_goto (tgt := 60) hx hb dX7_step_323 (by decide) ?_
                      exact ih_60 _ (hd_60 ▸ mu_up 24 (rn_ltu (u' := 23) (Int32.not_le.mp c_14) hz60_3 (fM_0_9 hT0) (by decide)) (by decide)) K60 (z60_3 + 1) _ _ ls rfl (rg_w (rg_add (lo := 1) (hi := 24) (rn_ltu (u' := 23) (Int32.not_le.mp c_14) hz60_3 (fM_0_9 hT0) (by decide)) (rg_c (v := 1) (lo := 1) (hi := 1) (by decide)) (by decide)) (by decide)) (fun A hA => by have h1 := (hx_60 A hA); exact h1) hT hF hLF_60 hP hD hS (lv_sub hl [0, 3, 4, 5] rfl)
                    · refine lv_aload_n hx hb dX7_step_212 rfl (lv_at hl 5 rfl) ?_
                      refine lv_dup hx hb dX7_step_213 rfl ?_
                      refine va_get (D := D) (ci := 7) (v := .int (gi (C 0) 19)) (C := RX7) (T := TX7) (N := 29) hx hb htg ig_7 hown hK hP 0 (oh_wg (Nat.lt_of_lt_of_le (by decide) hn) (sM_0 hT)) rfl 19 (by decide) (htg _ q_992) (fun _ h9 => h9) (oh_fv (c := K60 0) (j := 19) rfl (Eq.trans (congrArg vi (hLF_60.2 19 (by decide))) (congrArg vi (f_11.2 19 (by decide))))) dX7_step_214 ?_
                      refine lv_aload_n hx hb dX7_step_217 rfl (lv_at hl 5 rfl) ?_
                      refine lv_iload_n hx hb dX7_step_218 rfl (lv_at hl 4 rfl) ?_
                      refine lv_iload_n hx hb dX7_step_219 rfl (lv_at hl 3 rfl) ?_
                      refine lv_iload_n hx hb dX7_step_220 rfl (lv_at hl 2 rfl) ?_
                      refine lv_iconst (v := 1) hx hb dX7_step_221 (by decide) ?_
                      refine tq_V (As := [.int (ga (C 14) ((1 : Int32)).toNatClampNeg), .int (ga (C 14) ((2 : Int32)).toNatClampNeg), .int z60_3, .int 1]) (rest := [.int (gi (C 0) 19), .ref (a 0)]) (ws := (oh_W n a K60)) ⟨hx, hb, hml, hown, htg⟩ (c_X7_coinOf l D E G a K60 n hn hT (ga (C 14) ((1 : Int32)).toNatClampNeg) (ga (C 14) ((2 : Int32)).toNatClampNeg) z60_3 (1 : Int32) (rg_w (tA_rdc (lo := 0) (hi := 4) (tM_14 hT0) (rg_in (rg_c (v := 1) (lo := 1) (hi := 1) (by decide)) (by decide)) (show _ = 1 by decide) (by decide)) (by decide)) (rg_w (rn_ltu (u' := 23) (Int32.not_le.mp c_14) hz60_3 (fM_0_9 hT0) (by decide)) (by decide)) (oh_posU (rg_w (tA_rdc (lo := 0) (hi := 4) (tM_14 hT0) (rg_in (rg_c (v := 1) (lo := 1) (hi := 1) (by decide)) (by decide)) (show _ = 1 by decide) (by decide)) (by decide)) (fun i hi => hLF_60.1 _ (inR_out hi (by decide)) (by omega)) (oh_posU (rg_w (tA_rdc (lo := 0) (hi := 4) (tM_14 hT0) (rg_in (rg_c (v := 1) (lo := 1) (hi := 1) (by decide)) (by decide)) (show _ = 1 by decide) (by decide)) (by decide)) (fun i hi => f_11.1 _ (inR_out hi (by decide)) (by omega)) (oh_posu hR.1 hT0 c_1)))) (cwV 4 htg (oh_gV q_1326 q_1328 q_56 q_73 q_1329) rfl rfl rfl pdVX7_coinOf ⟨Nat.le_of_ble_eq_true rfl, Nat.le_of_ble_eq_true rfl⟩) hK hP hG hS (va_recv hK hP (ci := 7) (q0 := 0) rfl (oh_wg (Nat.lt_of_lt_of_le (by decide) hn) (sM_0 hT))) rfl hl.1 rfl (Nat.le_of_ble_eq_true rfl) dX7_step_222 ⟨Nat.le_of_ble_eq_true rfl, Nat.le_of_ble_eq_true rfl⟩ (fun r_134 hq_135 => ?_)
                      refine lv_iadd hx hb dX7_step_225 ?_
                      refine th_put (Tp := TyM a E) (Rl := fr [(8, 9), (14, 15), (15, 16), (48, 64)] [19] C) (ci := 7) (v := .int ((gi (C 0) 19) + r_134)) (ty := .int) (CC := RX7) (T := TX7) (N := 29) hx hb htg ig_7 tyX7 tyX7_ok nmX7 hown hK hP hD hS 0 (Nat.lt_of_lt_of_le (by decide) hn) (sM_0 hT) rfl 19 (by decide) (htg _ q_992) (fun _ h9 => h9) rfl (by decide +kernel) rfl rfl (Nat.le_of_ble_eq_true rfl) (hT.up 0 (by decide) ⟨rfl, (fM_0_7 hT), (fM_0_9 hT), (fM_0_11 hT), (fM_0_13 hT), (fM_0_15 hT), (fM_0_21 hT), (fM_0_23 hT)⟩) (fr_fd hF (sM_0 hT) (by decide)) dX7_step_226 (fun C_136 H locs e_137 hT hF hP hD hS => ?_)
                      have t_138 := hT
                      refine lv_aload_n hx hb dX7_step_229 rfl (lv_at hl 5 rfl) ?_
                      refine va_get (D := D) (ci := 7) (v := .ref (a 14)) (C := RX7) (T := TX7) (N := 29) hx hb htg ig_7 hown hK hP 0 (oh_wg (Nat.lt_of_lt_of_le (by decide) hn) (sM_0 hT)) rfl 18 (by decide) (htg _ q_991) (fun _ h9 => h9) rfl dX7_step_230 ?_
                      refine lv_iconst (v := 5) hx hb dX7_step_233 (by decide) ?_
                      refine lv_dup2_11 hx hb dX7_step_234 rfl rfl ?_
                      refine th_iald hx hb hK hP 14 (Nat.lt_of_lt_of_le (by decide) hn) (Eq.trans (Eq.trans (th_un e_137 (by decide)) (Eq.trans (hLF_60.1 14 rfl (by decide)) (f_11.1 14 rfl (by decide)))) (sM_14 hT0)) (rg_in (rg_c (v := 5) (lo := 5) (hi := 5) (by decide)) (by decide)) dX7_step_235 ?_
                      refine lv_aload_n hx hb dX7_step_236 rfl (lv_at hl 5 rfl) ?_
                      refine lv_iload_n hx hb dX7_step_237 rfl (lv_at hl 4 rfl) ?_
                      refine lv_iload_n hx hb dX7_step_238 rfl (lv_at hl 3 rfl) ?_
                      refine lv_iload_n hx hb dX7_step_239 rfl (lv_at hl 2 rfl) ?_
                      refine tq_V (As := [.int (ga (C 14) ((1 : Int32)).toNatClampNeg), .int (ga (C 14) ((2 : Int32)).toNatClampNeg), .int z60_3]) (rest := [.int (ga (C 14) ((5 : Int32)).toNatClampNeg), .int 5, .ref (a 14)]) (ws := (oh_W n a C_136)) ⟨hx, hb, hml, hown, htg⟩ (c_X7_daysOf l D E G a C_136 n hn hT (ga (C 14) ((1 : Int32)).toNatClampNeg) (ga (C 14) ((2 : Int32)).toNatClampNeg) z60_3 (rg_w (tA_rdc (lo := 0) (hi := 4) (tM_14 hT0) (rg_in (rg_c (v := 1) (lo := 1) (hi := 1) (by decide)) (by decide)) (show _ = 1 by decide) (by decide)) (by decide)) (rg_w (rn_ltu (u' := 23) (Int32.not_le.mp c_14) hz60_3 (fM_0_9 hT0) (by decide)) (by decide)) (oh_posU (rg_w (tA_rdc (lo := 0) (hi := 4) (tM_14 hT0) (rg_in (rg_c (v := 1) (lo := 1) (hi := 1) (by decide)) (by decide)) (show _ = 1 by decide) (by decide)) (by decide)) (fun i hi => th_un e_137 (by omega)) (oh_posU (rg_w (tA_rdc (lo := 0) (hi := 4) (tM_14 hT0) (rg_in (rg_c (v := 1) (lo := 1) (hi := 1) (by decide)) (by decide)) (show _ = 1 by decide) (by decide)) (by decide)) (fun i hi => hLF_60.1 _ (inR_out hi (by decide)) (by omega)) (oh_posU (rg_w (tA_rdc (lo := 0) (hi := 4) (tM_14 hT0) (rg_in (rg_c (v := 1) (lo := 1) (hi := 1) (by decide)) (by decide)) (show _ = 1 by decide) (by decide)) (by decide)) (fun i hi => f_11.1 _ (inR_out hi (by decide)) (by omega)) (oh_posu hR.1 hT0 c_1))))) (cwV 3 htg (oh_gV q_1334 q_1336 q_58 q_73 q_1337) rfl rfl rfl pdVX7_daysOf ⟨Nat.le_of_ble_eq_true rfl, Nat.le_of_ble_eq_true rfl⟩) hK hP hG hS (va_recv hK hP (ci := 7) (q0 := 0) rfl (oh_wg (Nat.lt_of_lt_of_le (by decide) hn) (sM_0 hT))) rfl hl.1 rfl (Nat.le_of_ble_eq_true rfl) dX7_step_240 ⟨Nat.le_of_ble_eq_true rfl, Nat.le_of_ble_eq_true rfl⟩ (fun r_139 hq_140 => ?_)
                      refine lv_iadd hx hb dX7_step_243 ?_
                      refine th_iast (T := TyM a E) (Rl := fr [(8, 9), (14, 15), (15, 16), (48, 64)] [19] C) hx hb hK hP hD hS 14 (Nat.lt_of_lt_of_le (by decide) hn) (sM_14 hT) (rg_in (rg_c (v := 5) (lo := 5) (hi := 5) (by decide)) (by decide)) (hT.up 14 (by decide) (tA_upd (tM_14 hT) (tA_stc (show _ = 5 by decide) (rg_any _) (by decide)))) (fr_st hF (by decide) (by decide)) dX7_step_244 (fun C_141 H locs e_142 hT hF hP hD hS => ?_)
                      have t_143 := hT
                      refine lv_aload_n hx hb dX7_step_245 rfl (lv_at hl 5 rfl) ?_
                      refine va_get (D := D) (ci := 7) (v := .ref (a 14)) (C := RX7) (T := TX7) (N := 29) hx hb htg ig_7 hown hK hP 0 (oh_wg (Nat.lt_of_lt_of_le (by decide) hn) (sM_0 hT)) rfl 18 (by decide) (htg _ q_991) (fun _ h9 => h9) rfl dX7_step_246 ?_
                      refine lv_bipush (v := 6) hx hb dX7_step_249 (by decide) ?_
                      refine lv_dup2_11 hx hb dX7_step_251 rfl rfl ?_
                      refine th_iald hx hb hK hP 14 (Nat.lt_of_lt_of_le (by decide) hn) (sM_14 hT) (rg_in (rg_c (v := 6) (lo := 6) (hi := 6) (by decide)) (by decide)) dX7_step_252 ?_
                      refine lv_iconst (v := 1) hx hb dX7_step_253 (by decide) ?_
                      refine lv_iadd hx hb dX7_step_254 ?_
                      refine th_iast (T := TyM a E) (Rl := fr [(8, 9), (14, 15), (15, 16), (48, 64)] [19] C) hx hb hK hP hD hS 14 (Nat.lt_of_lt_of_le (by decide) hn) (sM_14 hT) (rg_in (rg_c (v := 6) (lo := 6) (hi := 6) (by decide)) (by decide)) (hT.up 14 (by decide) (tA_upd (tM_14 hT) (tA_stc (show _ = 6 by decide) (rg_any _) (by decide)))) (fr_st hF (by decide) (by decide)) dX7_step_255 (fun C_144 H locs e_145 hT hF hP hD hS => ?_)
                      have t_146 := hT
                      refine lv_aload_n hx hb dX7_step_256 rfl (lv_at hl 5 rfl) ?_
                      refine va_get (D := D) (ci := 7) (v := .ref (a 14)) (C := RX7) (T := TX7) (N := 29) hx hb htg ig_7 hown hK hP 0 (oh_wg (Nat.lt_of_lt_of_le (by decide) hn) (sM_0 hT)) rfl 18 (by decide) (htg _ q_991) (fun _ h9 => h9) rfl dX7_step_257 ?_
                      refine lv_iconst (v := 3) hx hb dX7_step_260 (by decide) ?_
                      refine lv_iload hx hb dX7_step_261 (lv_at hl 0 rfl) ?_
                      refine th_iast (T := TyM a E) (Rl := fr [(8, 9), (14, 15), (15, 16), (48, 64)] [19] C) hx hb hK hP hD hS 14 (Nat.lt_of_lt_of_le (by decide) hn) (sM_14 hT) (rg_in (rg_c (v := 3) (lo := 3) (hi := 3) (by decide)) (by decide)) (hT.up 14 (by decide) (tA_upd (tM_14 hT) (tA_stc (show _ = 3 by decide) (tA_rdc (lo := 0) (hi := 15) (hT0.broad b_125) (rg_in (rg_c (v := 0) (lo := 0) (hi := 0) (by decide)) (by decide)) (show _ = 0 by decide) (by decide)) (by decide)))) (fr_st hF (by decide) (by decide)) dX7_step_263 (fun C_147 H locs e_148 hT hF hP hD hS => ?_)
                      have t_149 := hT
                      refine lv_iconst (v := 0) hx hb dX7_step_264 (by decide) ?_
                      refine lv_istore (lv' := [(6, .int 0), (5, .int (ga (C (24 + (z60_3).toNatClampNeg)) ((0 : Int32)).toNatClampNeg)), (4, .int 1), (3, .int z60_3), (2, .int (ga (C 14) ((2 : Int32)).toNatClampNeg)), (1, .int (ga (C 14) ((1 : Int32)).toNatClampNeg)), (0, .ref (a 0))]) hx hb dX7_step_265 hl (by decide) rfl (fun ls hl => ?_)
                      have L_267 : ∀ (d : Nat) (K267 : Nat → va_E) (z267_6 : Int32) (H : Heap) (locs : List Loc) (ls : Array Slot), (16 - z267_6.toInt).toNat = d → rg z267_6 0 16 → (∀ A : LA, absM C A → absM K267 A) → TyM a E K267 → fr [(8, 9), (14, 15), (15, 16), (48, 64)] [19] C K267 → fr [(48, 64)] [] C_147 K267 → va_P D vwCl (oh_W n a K267) H → va_D A (oh_W n a K267) → va_S A s.heap H locs → lv_has ls 7 [(6, .int z267_6), (5, .int (ga (C (24 + (z60_3).toNatClampNeg)) ((0 : Int32)).toNatClampNeg)), (4, .int 1), (3, .int z60_3), (2, .int (ga (C 14) ((2 : Int32)).toNatClampNeg)), (1, .int (ga (C 14) ((1 : Int32)).toNatClampNeg)), (0, .ref (a 0))] → W p l e ({ frames := 6, cells := 0, slots := 0, locals := 152 }) s m (([.ref (a 0)] : List Value).toArray) below meth c H locs 0 0 Q (F0 m 267 ls []) := by
                        intro d
                        induction d using Nat.strongRecOn with
                        | ind d ih_267 =>
                        intro K267 z267_6 H locs ls hd_267 hz267_6 hx_267 hT hF hLF_267 hP hD hS hl
                        have t_150 := hT
                        refine lv_iload hx hb dX7_step_267 (lv_at hl 0 rfl) ?_
                        refine lv_aload_n hx hb dX7_step_269 rfl (lv_at hl 6 rfl) ?_
                        refine va_get (D := D) (ci := 7) (v := .int (gi (C 0) 11)) (C := RX7) (T := TX7) (N := 29) hx hb htg ig_7 hown hK hP 0 (oh_wg (Nat.lt_of_lt_of_le (by decide) hn) (sM_0 hT)) rfl 11 (by decide) (htg _ q_984) (fun _ h9 => h9) (oh_fv (c := K267 0) (j := 11) rfl (Eq.trans (congrArg vi (hLF_267.2 11 (by decide))) (Eq.trans (congrArg (fun z => gi z 11) (th_un e_148 (by decide))) (Eq.trans (congrArg (fun z => gi z 11) (th_un e_145 (by decide))) (Eq.trans (congrArg (fun z => gi z 11) (th_un e_142 (by decide))) (Eq.trans (show gi (C_136 0) 11 = gi (K60 0) 11 by rw [e_137]; rfl) (Eq.trans (congrArg vi (hLF_60.2 11 (by decide))) (congrArg vi (f_11.2 11 (by decide)))))))))) dX7_step_270 ?_
                        refine lv_icmp_ge (tgt := 318) hx hb dX7_step_273 (by decide) (fun (c_151 : (gi (C 0) 11) ≤ z267_6) => ?_) (fun (c_151 : ¬ ((gi (C 0) 11) ≤ z267_6)) => ?_)
                        · refine lv_iload_n hx hb dX7_step_318 rfl (lv_at hl 3 rfl) ?_
                          rw [hQ]
                          exact W.iret (v := z60_3) hx hb hr (fun t ht hW => ⟨⟨z60_3, K267, rfl, ⟨hT, hF, ⟨⟨relW_mk hR.1 hF (by decide) (by rw [show ga (K267 14) 0 = ga (C 14) 0 by rw [(hLF_267.1 14 rfl (by decide)), (st_ga e_148), pk_un (by decide), (st_ga e_145), pk_un (by decide), (st_ga e_142), pk_un (by decide), (Eq.trans (th_un e_137 (by decide)) (Eq.trans (hLF_60.1 14 rfl (by decide)) (f_11.1 14 rfl (by decide))))], show ga (K267 14) 1 = ga (C 14) 1 by rw [(hLF_267.1 14 rfl (by decide)), (st_ga e_148), pk_un (by decide), (st_ga e_145), pk_un (by decide), (st_ga e_142), pk_un (by decide), (Eq.trans (th_un e_137 (by decide)) (Eq.trans (hLF_60.1 14 rfl (by decide)) (f_11.1 14 rfl (by decide))))]]; exact hR.1.2), hR.2.fr hF (by decide)⟩, (fun A hA => by have h1 := (hx_267 A hA); exact h1)⟩⟩, ⟨by rw [ht]; exact hP, hD⟩⟩, hS.F ht⟩) hS.2.2 dX7_step_319
                        · refine lv_aload_n hx hb dX7_step_276 rfl (lv_at hl 6 rfl) ?_
                          refine va_get (D := D) (ci := 7) (v := .ref (a 10)) (C := RX7) (T := TX7) (N := 29) hx hb htg ig_7 hown hK hP 0 (oh_wg (Nat.lt_of_lt_of_le (by decide) hn) (sM_0 hT)) rfl 12 (by decide) (htg _ q_985) (fun _ h9 => h9) rfl dX7_step_277 ?_
                          refine lv_iload hx hb dX7_step_280 (lv_at hl 0 rfl) ?_
                          have n_152 : vp_in z267_6 16 := (rg_in (rn_ltu (u' := 15) (Int32.not_le.mp c_151) hz267_6 (fM_0_11 hT0) (by decide)) (by decide))
                          have b_153 : (z267_6).toNatClampNeg < 16 := vp_lt n_152
                          refine th_aald hx hb hK hP 10 2 (Nat.lt_of_lt_of_le (by decide) hn) (sM_10 hT) rfl n_152 dX7_step_282 ?_
                          refine lv_iconst (v := 0) hx hb dX7_step_283 (by decide) ?_
                          refine th_iald hx hb hK hP (48 + (z267_6).toNatClampNeg) (lt_blk b_153 hn (by decide)) (hT.bbridge b_153).1 (rg_in (rg_c (v := 0) (lo := 0) (hi := 0) (by decide)) (by decide)) dX7_step_284 ?_
                          refine lv_iload_n hx hb dX7_step_285 rfl (lv_at hl 3 rfl) ?_
                          refine lv_icmp_ne (tgt := 312) hx hb dX7_step_286 (by decide) (fun (c_154 : ¬ ((ga (K267 (48 + (z267_6).toNatClampNeg)) ((0 : Int32)).toNatClampNeg) = z60_3)) => ?_) (fun (c_154 : (ga (K267 (48 + (z267_6).toNatClampNeg)) ((0 : Int32)).toNatClampNeg) = z60_3) => ?_)
                          · refine lv_iinc (v := z267_6 + 1) (lv' := [(6, .int (z267_6 + 1)), (5, .int (ga (C (24 + (z60_3).toNatClampNeg)) ((0 : Int32)).toNatClampNeg)), (4, .int 1), (3, .int z60_3), (2, .int (ga (C 14) ((2 : Int32)).toNatClampNeg)), (1, .int (ga (C 14) ((1 : Int32)).toNatClampNeg)), (0, .ref (a 0))]) hx hb dX7_step_312 hl (k := 0) rfl (by rfl) (by decide) rfl (fun ls hl => ?_)
                            refine lv_goto (tgt := 267) hx hb dX7_step_315 (by decide) ?_
                            exact ih_267 _ (hd_267 ▸ mu_up 16 (rn_ltu (u' := 15) (Int32.not_le.mp c_151) hz267_6 (fM_0_11 hT0) (by decide)) (by decide)) K267 (z267_6 + 1) _ _ ls rfl (rg_w (rg_add (lo := 1) (hi := 16) (rn_ltu (u' := 15) (Int32.not_le.mp c_151) hz267_6 (fM_0_11 hT0) (by decide)) (rg_c (v := 1) (lo := 1) (hi := 1) (by decide)) (by decide)) (by decide)) (fun A hA => by have h1 := (hx_267 A hA); exact h1) hT hF hLF_267 hP hD hS (lv_sub hl [0, 1, 2, 3, 4, 5, 6] rfl)
                          · refine lv_aload_n hx hb dX7_step_289 rfl (lv_at hl 6 rfl) ?_
                            refine lv_iload_n hx hb dX7_step_290 rfl (lv_at hl 5 rfl) ?_
                            refine lv_iload_n hx hb dX7_step_291 rfl (lv_at hl 4 rfl) ?_
                            refine lv_iload hx hb dX7_step_292 (lv_at hl 0 rfl) ?_
                            refine tq_V (As := [.int (ga (C 14) ((1 : Int32)).toNatClampNeg), .int (ga (C 14) ((2 : Int32)).toNatClampNeg), .int z267_6]) (rest := []) (ws := (oh_W n a K267)) ⟨hx, hb, hml, hown, htg⟩ (c_X7_needsOf l D E G a K267 n hn hT (ga (C 14) ((1 : Int32)).toNatClampNeg) (ga (C 14) ((2 : Int32)).toNatClampNeg) z267_6 (rg_w (tA_rdc (lo := 0) (hi := 4) (tM_14 hT0) (rg_in (rg_c (v := 1) (lo := 1) (hi := 1) (by decide)) (by decide)) (show _ = 1 by decide) (by decide)) (by decide)) (rg_w (rn_ltu (u' := 15) (Int32.not_le.mp c_151) hz267_6 (fM_0_11 hT0) (by decide)) (by decide)) (oh_posU (rg_w (tA_rdc (lo := 0) (hi := 4) (tM_14 hT0) (rg_in (rg_c (v := 1) (lo := 1) (hi := 1) (by decide)) (by decide)) (show _ = 1 by decide) (by decide)) (by decide)) (fun i hi => hLF_267.1 _ (inR_out hi (by decide)) (by omega)) (oh_posU (rg_w (tA_rdc (lo := 0) (hi := 4) (tM_14 hT0) (rg_in (rg_c (v := 1) (lo := 1) (hi := 1) (by decide)) (by decide)) (show _ = 1 by decide) (by decide)) (by decide)) (fun i hi => th_un e_148 (by omega)) (oh_posU (rg_w (tA_rdc (lo := 0) (hi := 4) (tM_14 hT0) (rg_in (rg_c (v := 1) (lo := 1) (hi := 1) (by decide)) (by decide)) (show _ = 1 by decide) (by decide)) (by decide)) (fun i hi => th_un e_145 (by omega)) (oh_posU (rg_w (tA_rdc (lo := 0) (hi := 4) (tM_14 hT0) (rg_in (rg_c (v := 1) (lo := 1) (hi := 1) (by decide)) (by decide)) (show _ = 1 by decide) (by decide)) (by decide)) (fun i hi => th_un e_142 (by omega)) (oh_posU (rg_w (tA_rdc (lo := 0) (hi := 4) (tM_14 hT0) (rg_in (rg_c (v := 1) (lo := 1) (hi := 1) (by decide)) (by decide)) (show _ = 1 by decide) (by decide)) (by decide)) (fun i hi => th_un e_137 (by omega)) (oh_posU (rg_w (tA_rdc (lo := 0) (hi := 4) (tM_14 hT0) (rg_in (rg_c (v := 1) (lo := 1) (hi := 1) (by decide)) (by decide)) (show _ = 1 by decide) (by decide)) (by decide)) (fun i hi => hLF_60.1 _ (inR_out hi (by decide)) (by omega)) (oh_posU (rg_w (tA_rdc (lo := 0) (hi := 4) (tM_14 hT0) (rg_in (rg_c (v := 1) (lo := 1) (hi := 1) (by decide)) (by decide)) (show _ = 1 by decide) (by decide)) (by decide)) (fun i hi => f_11.1 _ (inR_out hi (by decide)) (by omega)) (oh_posu hR.1 hT0 c_1))))))))) (cwV 3 htg (oh_gV q_1310 q_1312 q_53 q_73 q_1313) rfl rfl rfl pdVX7_needsOf ⟨Nat.le_of_ble_eq_true rfl, Nat.le_of_ble_eq_true rfl⟩) hK hP hG hS (va_recv hK hP (ci := 7) (q0 := 0) rfl (oh_wg (Nat.lt_of_lt_of_le (by decide) hn) (sM_0 hT))) rfl hl.1 rfl (Nat.le_of_ble_eq_true rfl) dX7_step_294 ⟨Nat.le_of_ble_eq_true rfl, Nat.le_of_ble_eq_true rfl⟩ (fun r_155 hq_156 => ?_)
                            refine lv_iconst (v := 1) hx hb dX7_step_297 (by decide) ?_
                            refine lv_icmp_ne (tgt := 312) hx hb dX7_step_298 (by decide) (fun (c_157 : ¬ (r_155 = 1)) => ?_) (fun (c_157 : r_155 = 1) => ?_)
                            · refine lv_iinc (v := z267_6 + 1) (lv' := [(6, .int (z267_6 + 1)), (5, .int (ga (C (24 + (z60_3).toNatClampNeg)) ((0 : Int32)).toNatClampNeg)), (4, .int 1), (3, .int z60_3), (2, .int (ga (C 14) ((2 : Int32)).toNatClampNeg)), (1, .int (ga (C 14) ((1 : Int32)).toNatClampNeg)), (0, .ref (a 0))]) hx hb dX7_step_312 hl (k := 0) rfl (by rfl) (by decide) rfl (fun ls hl => ?_)
                              refine lv_goto (tgt := 267) hx hb dX7_step_315 (by decide) ?_
                              exact ih_267 _ (hd_267 ▸ mu_up 16 (rn_ltu (u' := 15) (Int32.not_le.mp c_151) hz267_6 (fM_0_11 hT0) (by decide)) (by decide)) K267 (z267_6 + 1) _ _ ls rfl (rg_w (rg_add (lo := 1) (hi := 16) (rn_ltu (u' := 15) (Int32.not_le.mp c_151) hz267_6 (fM_0_11 hT0) (by decide)) (rg_c (v := 1) (lo := 1) (hi := 1) (by decide)) (by decide)) (by decide)) (fun A hA => by have h1 := (hx_267 A hA); exact h1) hT hF hLF_267 hP hD hS (lv_sub hl [0, 1, 2, 3, 4, 5, 6] rfl)
                            · refine lv_aload_n hx hb dX7_step_301 rfl (lv_at hl 6 rfl) ?_
                              refine va_get (D := D) (ci := 7) (v := .ref (a 10)) (C := RX7) (T := TX7) (N := 29) hx hb htg ig_7 hown hK hP 0 (oh_wg (Nat.lt_of_lt_of_le (by decide) hn) (sM_0 hT)) rfl 12 (by decide) (htg _ q_985) (fun _ h9 => h9) rfl dX7_step_302 ?_
                              refine lv_iload hx hb dX7_step_305 (lv_at hl 0 rfl) ?_
                              have n_158 : vp_in z267_6 16 := (rg_in (rn_ltu (u' := 15) (Int32.not_le.mp c_151) hz267_6 (fM_0_11 hT0) (by decide)) (by decide))
                              have b_159 : (z267_6).toNatClampNeg < 16 := vp_lt n_158
                              refine th_aald hx hb hK hP 10 2 (Nat.lt_of_lt_of_le (by decide) hn) (sM_10 hT) rfl n_158 dX7_step_307 ?_
                              refine lv_bipush (v := 7) hx hb dX7_step_308 (by decide) ?_
                              refine lv_iconst (v := 1) hx hb dX7_step_310 (by decide) ?_
                              refine th_iast (T := TyM a E) (Rl := fr [(8, 9), (14, 15), (15, 16), (48, 64)] [19] C) hx hb hK hP hD hS (48 + (z267_6).toNatClampNeg) (lt_blk b_159 hn (by decide)) (hT.bbridge b_159).1 (rg_in (rg_c (v := 7) (lo := 7) (hi := 7) (by decide)) (by decide)) (hT.upbridge b_159 (tA_upd (hT.bbridge b_159) tA_any)) (fr_st hF (by omega) (inR_of (p := (48, 64)) (by decide) (by show 48 ≤ _; omega) (by show _ < 64; omega))) dX7_step_311 (fun C_160 H locs e_161 hT hF hP hD hS => ?_)
                              have t_162 := hT
                              refine lv_iinc (v := z267_6 + 1) (lv' := [(6, .int (z267_6 + 1)), (5, .int (ga (C (24 + (z60_3).toNatClampNeg)) ((0 : Int32)).toNatClampNeg)), (4, .int 1), (3, .int z60_3), (2, .int (ga (C 14) ((2 : Int32)).toNatClampNeg)), (1, .int (ga (C 14) ((1 : Int32)).toNatClampNeg)), (0, .ref (a 0))]) hx hb dX7_step_312 hl (k := 0) rfl (by rfl) (by decide) rfl (fun ls hl => ?_)
                              refine lv_goto (tgt := 267) hx hb dX7_step_315 (by decide) ?_
                              exact ih_267 _ (hd_267 ▸ mu_up 16 (rn_ltu (u' := 15) (Int32.not_le.mp c_151) hz267_6 (fM_0_11 hT0) (by decide)) (by decide)) C_160 (z267_6 + 1) _ _ ls rfl (rg_w (rg_add (lo := 1) (hi := 16) (rn_ltu (u' := 15) (Int32.not_le.mp c_151) hz267_6 (fM_0_11 hT0) (by decide)) (rg_c (v := 1) (lo := 1) (hi := 1) (by decide)) (by decide)) (by decide)) (fun A hA => by have h1 := (hx_267 A hA); have h2 := absM_st (t := 1) t_150 h1 (by decide) (show (z267_6).toNatClampNeg < 16 from b_159) e_161; have h3 := absM_vis h2; exact h3) hT hF (fr_ste hLF_267 e_161 (by omega) (inR_of (p := (48, 64)) (by decide) (by show 48 ≤ _; omega) (by show _ < 64; omega))) hP hD hS (lv_sub hl [0, 1, 2, 3, 4, 5, 6] rfl)
                      exact L_267 _ C_147 0 _ _ ls rfl (rg_w (rg_c (v := 0) (lo := 0) (hi := 0) (by decide)) (by decide)) (fun A hA => by have h1 := (hx_60 A hA); have h2 := absM_fr h1 t_13 (show fr [(14, 15)] [19] K60 C_147 from (fr_ste (fr_ste (fr_ste (fr_fde fr_rf e_137 (sM_0 t_13) (by decide)) e_142 (by decide) (by decide)) e_145 (by decide) (by decide)) e_148 (by decide) (by decide))) (by decide) (by decide) (by decide); exact h2) hT hF fr_rf hP hD hS (lv_sub hl [0, 1, 2, 3, 4, 5, 6] rfl)
                · refine lv_aload_n hx hb dX7_step_144 rfl (lv_at hl 4 rfl) ?_
                  refine va_get (D := D) (ci := 7) (v := .ref (a 9)) (C := RX7) (T := TX7) (N := 29) hx hb htg ig_7 hown hK hP 0 (oh_wg (Nat.lt_of_lt_of_le (by decide) hn) (sM_0 hT)) rfl 10 (by decide) (htg _ q_983) (fun _ h9 => h9) rfl dX7_step_145 ?_
                  refine lv_iload_n hx hb dX7_step_148 rfl (lv_at hl 1 rfl) ?_
                  have n_163 : vp_in z60_3 24 := (rg_in (rn_ltu (u' := 23) (Int32.not_le.mp c_14) hz60_3 (fM_0_9 hT0) (by decide)) (by decide))
                  have b_164 : (z60_3).toNatClampNeg < 24 := vp_lt n_163
                  refine th_aald hx hb hK hP 9 2 (Nat.lt_of_lt_of_le (by decide) hn) (sM_9 hT) rfl n_163 dX7_step_149 ?_
                  refine lv_iconst (v := 1) hx hb dX7_step_150 (by decide) ?_
                  refine th_iald hx hb hK hP (24 + (z60_3).toNatClampNeg) (lt_blk b_164 hn (by decide)) (Eq.trans (Eq.trans (hLF_60.1 (24 + (z60_3).toNatClampNeg) (by have h9 := b_164; exact inR_out h9 (by decide)) (by omega)) (f_11.1 (24 + (z60_3).toNatClampNeg) (by have h9 := b_164; exact inR_out h9 (by decide)) (by omega))) (hT0.broad b_164).1) (rg_in (rg_c (v := 1) (lo := 1) (hi := 1) (by decide)) (by decide)) dX7_step_151 ?_
                  refine lv_goto (tgt := 163) hx hb dX7_step_152 (by decide) ?_
                  refine lv_istore (lv' := [(5, .int (ga (C (24 + (z60_3).toNatClampNeg)) ((1 : Int32)).toNatClampNeg)), (4, .int 1), (3, .int z60_3), (2, .int (ga (C 14) ((2 : Int32)).toNatClampNeg)), (1, .int (ga (C 14) ((1 : Int32)).toNatClampNeg)), (0, .ref (a 0))]) hx hb dX7_step_163 hl (by decide) rfl (fun ls hl => ?_)
                  refine lv_iload hx hb dX7_step_165 (lv_at hl 1 rfl) ?_
                  refine lv_if_eq (tgt := 320) hx hb dX7_step_167 (by decide) (fun c => absurd c (show ¬ ((1 : Int32) = 0) from by decide)) (fun _ => ?_)
                  refine lv_aload_n hx hb dX7_step_170 rfl (lv_at hl 5 rfl) ?_
                  refine lv_iload_n hx hb dX7_step_171 rfl (lv_at hl 4 rfl) ?_
                  refine lv_iload_n hx hb dX7_step_172 rfl (lv_at hl 3 rfl) ?_
                  refine lv_iload_n hx hb dX7_step_173 rfl (lv_at hl 2 rfl) ?_
                  refine tq_V (As := [.int (ga (C 14) ((1 : Int32)).toNatClampNeg), .int (ga (C 14) ((2 : Int32)).toNatClampNeg), .int z60_3]) (rest := []) (ws := (oh_W n a K60)) ⟨hx, hb, hml, hown, htg⟩ (c_X7_goesOf l D E G a K60 n hn hT (ga (C 14) ((1 : Int32)).toNatClampNeg) (ga (C 14) ((2 : Int32)).toNatClampNeg) z60_3 (rg_w (tA_rdc (lo := 0) (hi := 4) (tM_14 hT0) (rg_in (rg_c (v := 1) (lo := 1) (hi := 1) (by decide)) (by decide)) (show _ = 1 by decide) (by decide)) (by decide)) (rg_w (rn_ltu (u' := 23) (Int32.not_le.mp c_14) hz60_3 (fM_0_9 hT0) (by decide)) (by decide)) (oh_posU (rg_w (tA_rdc (lo := 0) (hi := 4) (tM_14 hT0) (rg_in (rg_c (v := 1) (lo := 1) (hi := 1) (by decide)) (by decide)) (show _ = 1 by decide) (by decide)) (by decide)) (fun i hi => hLF_60.1 _ (inR_out hi (by decide)) (by omega)) (oh_posU (rg_w (tA_rdc (lo := 0) (hi := 4) (tM_14 hT0) (rg_in (rg_c (v := 1) (lo := 1) (hi := 1) (by decide)) (by decide)) (show _ = 1 by decide) (by decide)) (by decide)) (fun i hi => f_11.1 _ (inR_out hi (by decide)) (by omega)) (oh_posu hR.1 hT0 c_1)))) (cwV 3 htg (oh_gV q_1318 q_1320 q_54 q_73 q_1321) rfl rfl rfl pdVX7_goesOf ⟨Nat.le_of_ble_eq_true rfl, Nat.le_of_ble_eq_true rfl⟩) hK hP hG hS (va_recv hK hP (ci := 7) (q0 := 0) rfl (oh_wg (Nat.lt_of_lt_of_le (by decide) hn) (sM_0 hT))) rfl hl.1 rfl (Nat.le_of_ble_eq_true rfl) dX7_step_174 ⟨Nat.le_of_ble_eq_true rfl, Nat.le_of_ble_eq_true rfl⟩ (fun r_165 hq_166 => ?_)
                  refine lv_if_eq (tgt := 320) hx hb dX7_step_177 (by decide) (fun (c_167 : r_165 = 0) => ?_) (fun (c_167 : ¬ (r_165 = 0)) => ?_)
                  · refine lv_iinc (v := z60_3 + 1) (lv' := [(3, .int (z60_3 + 1)), (5, .int (ga (C (24 + (z60_3).toNatClampNeg)) ((1 : Int32)).toNatClampNeg)), (4, .int 1), (2, .int (ga (C 14) ((2 : Int32)).toNatClampNeg)), (1, .int (ga (C 14) ((1 : Int32)).toNatClampNeg)), (0, .ref (a 0))]) hx hb dX7_step_320 hl (k := 2) rfl (by rfl) (by decide) rfl (fun ls hl => ?_)
                    refine lv_goto (tgt := 60) hx hb dX7_step_323 (by decide) ?_
                    exact ih_60 _ (hd_60 ▸ mu_up 24 (rn_ltu (u' := 23) (Int32.not_le.mp c_14) hz60_3 (fM_0_9 hT0) (by decide)) (by decide)) K60 (z60_3 + 1) _ _ ls rfl (rg_w (rg_add (lo := 1) (hi := 24) (rn_ltu (u' := 23) (Int32.not_le.mp c_14) hz60_3 (fM_0_9 hT0) (by decide)) (rg_c (v := 1) (lo := 1) (hi := 1) (by decide)) (by decide)) (by decide)) (fun A hA => by have h1 := (hx_60 A hA); exact h1) hT hF hLF_60 hP hD hS (lv_sub hl [0, 3, 4, 5] rfl)
                  · refine lv_aload_n hx hb dX7_step_180 rfl (lv_at hl 5 rfl) ?_
                    refine lv_iload_n hx hb dX7_step_181 rfl (lv_at hl 4 rfl) ?_
                    refine lv_iload_n hx hb dX7_step_182 rfl (lv_at hl 3 rfl) ?_
                    refine lv_iload_n hx hb dX7_step_183 rfl (lv_at hl 2 rfl) ?_
                    refine lv_iconst (v := 1) hx hb dX7_step_184 (by decide) ?_
                    refine tq_V (As := [.int (ga (C 14) ((1 : Int32)).toNatClampNeg), .int (ga (C 14) ((2 : Int32)).toNatClampNeg), .int z60_3, .int 1]) (rest := []) (ws := (oh_W n a K60)) ⟨hx, hb, hml, hown, htg⟩ (c_X7_coinOf l D E G a K60 n hn hT (ga (C 14) ((1 : Int32)).toNatClampNeg) (ga (C 14) ((2 : Int32)).toNatClampNeg) z60_3 (1 : Int32) (rg_w (tA_rdc (lo := 0) (hi := 4) (tM_14 hT0) (rg_in (rg_c (v := 1) (lo := 1) (hi := 1) (by decide)) (by decide)) (show _ = 1 by decide) (by decide)) (by decide)) (rg_w (rn_ltu (u' := 23) (Int32.not_le.mp c_14) hz60_3 (fM_0_9 hT0) (by decide)) (by decide)) (oh_posU (rg_w (tA_rdc (lo := 0) (hi := 4) (tM_14 hT0) (rg_in (rg_c (v := 1) (lo := 1) (hi := 1) (by decide)) (by decide)) (show _ = 1 by decide) (by decide)) (by decide)) (fun i hi => hLF_60.1 _ (inR_out hi (by decide)) (by omega)) (oh_posU (rg_w (tA_rdc (lo := 0) (hi := 4) (tM_14 hT0) (rg_in (rg_c (v := 1) (lo := 1) (hi := 1) (by decide)) (by decide)) (show _ = 1 by decide) (by decide)) (by decide)) (fun i hi => f_11.1 _ (inR_out hi (by decide)) (by omega)) (oh_posu hR.1 hT0 c_1)))) (cwV 4 htg (oh_gV q_1326 q_1328 q_56 q_73 q_1329) rfl rfl rfl pdVX7_coinOf ⟨Nat.le_of_ble_eq_true rfl, Nat.le_of_ble_eq_true rfl⟩) hK hP hG hS (va_recv hK hP (ci := 7) (q0 := 0) rfl (oh_wg (Nat.lt_of_lt_of_le (by decide) hn) (sM_0 hT))) rfl hl.1 rfl (Nat.le_of_ble_eq_true rfl) dX7_step_185 ⟨Nat.le_of_ble_eq_true rfl, Nat.le_of_ble_eq_true rfl⟩ (fun r_168 hq_169 => ?_)
                    refine lv_i2l (v := Int32.toInt64 r_168) hx hb dX7_step_188 (by rfl) ?_
                    refine lv_aload_n hx hb dX7_step_189 rfl (lv_at hl 5 rfl) ?_
                    refine va_get (D := D) (ci := 7) (v := .ref (a 15)) (C := RX7) (T := TX7) (N := 29) hx hb htg ig_7 hown hK hP 0 (oh_wg (Nat.lt_of_lt_of_le (by decide) hn) (sM_0 hT)) rfl 27 (by decide) (htg _ q_1000) (fun _ h9 => h9) rfl dX7_step_190 ?_
                    refine lv_iload hx hb dX7_step_193 (lv_at hl 0 rfl) ?_
                    have n_170 : vp_in (ga (C (24 + (z60_3).toNatClampNeg)) ((1 : Int32)).toNatClampNeg) 16 := (rg_in (rn_eq c_113 (rn_eq c_123.symm (tA_rdc (lo := 0) (hi := 15) (hT0.broad b_122) (rg_in (rg_c (v := 0) (lo := 0) (hi := 0) (by decide)) (by decide)) (show _ = 0 by decide) (by decide)))) (by decide))
                    refine th_lald hx hb hK hP 15 (Nat.lt_of_lt_of_le (by decide) hn) (Eq.trans (hLF_60.1 15 rfl (by decide)) (sM_15 t_12)) n_170 dX7_step_195 ?_
                    refine lv_ladd hx hb dX7_step_196 ?_
                    refine lv_aload_n hx hb dX7_step_197 rfl (lv_at hl 5 rfl) ?_
                    refine va_get (D := D) (ci := 7) (v := .ref (a 15)) (C := RX7) (T := TX7) (N := 29) hx hb htg ig_7 hown hK hP 0 (oh_wg (Nat.lt_of_lt_of_le (by decide) hn) (sM_0 hT)) rfl 27 (by decide) (htg _ q_1000) (fun _ h9 => h9) rfl dX7_step_198 ?_
                    refine lv_aload_n hx hb dX7_step_201 rfl (lv_at hl 5 rfl) ?_
                    refine va_get (D := D) (ci := 7) (v := .ref (a 14)) (C := RX7) (T := TX7) (N := 29) hx hb htg ig_7 hown hK hP 0 (oh_wg (Nat.lt_of_lt_of_le (by decide) hn) (sM_0 hT)) rfl 18 (by decide) (htg _ q_991) (fun _ h9 => h9) rfl dX7_step_202 ?_
                    refine lv_iconst (v := 3) hx hb dX7_step_205 (by decide) ?_
                    refine th_iald hx hb hK hP 14 (Nat.lt_of_lt_of_le (by decide) hn) (Eq.trans (Eq.trans (hLF_60.1 14 rfl (by decide)) (f_11.1 14 rfl (by decide))) (sM_14 hT0)) (rg_in (rg_c (v := 3) (lo := 3) (hi := 3) (by decide)) (by decide)) dX7_step_206 ?_
                    have n_171 : vp_in (ga (C 14) ((3 : Int32)).toNatClampNeg) 16 := (rg_in (rn_eq c_123.symm (tA_rdc (lo := 0) (hi := 15) (hT0.broad b_122) (rg_in (rg_c (v := 0) (lo := 0) (hi := 0) (by decide)) (by decide)) (show _ = 0 by decide) (by decide))) (by decide))
                    refine th_lald hx hb hK hP 15 (Nat.lt_of_lt_of_le (by decide) hn) (Eq.trans (hLF_60.1 15 rfl (by decide)) (sM_15 t_12)) n_171 dX7_step_207 ?_
                    refine W.lcmp hx hb dX7_step_208 ?_
                    refine lv_if_ne (tgt := 320) hx hb dX7_step_209 (by decide) (fun (c_172 : ¬ ((lg_cmp ((Int32.toInt64 r_168) + (gb (C_9 15) (ga (C (24 + (z60_3).toNatClampNeg)) ((1 : Int32)).toNatClampNeg).toNatClampNeg)) (gb (C_9 15) (ga (C 14) ((3 : Int32)).toNatClampNeg).toNatClampNeg)) = 0)) => ?_) (fun (c_172 : (lg_cmp ((Int32.toInt64 r_168) + (gb (C_9 15) (ga (C (24 + (z60_3).toNatClampNeg)) ((1 : Int32)).toNatClampNeg).toNatClampNeg)) (gb (C_9 15) (ga (C 14) ((3 : Int32)).toNatClampNeg).toNatClampNeg)) = 0) => ?_)
                    · refine lv_iinc (v := z60_3 + 1) (lv' := [(3, .int (z60_3 + 1)), (5, .int (ga (C (24 + (z60_3).toNatClampNeg)) ((1 : Int32)).toNatClampNeg)), (4, .int 1), (2, .int (ga (C 14) ((2 : Int32)).toNatClampNeg)), (1, .int (ga (C 14) ((1 : Int32)).toNatClampNeg)), (0, .ref (a 0))]) hx hb dX7_step_320 hl (k := 2) rfl (by rfl) (by decide) rfl (fun ls hl => ?_)
                      refine lv_goto (tgt := 60) hx hb dX7_step_323 (by decide) ?_
                      exact ih_60 _ (hd_60 ▸ mu_up 24 (rn_ltu (u' := 23) (Int32.not_le.mp c_14) hz60_3 (fM_0_9 hT0) (by decide)) (by decide)) K60 (z60_3 + 1) _ _ ls rfl (rg_w (rg_add (lo := 1) (hi := 24) (rn_ltu (u' := 23) (Int32.not_le.mp c_14) hz60_3 (fM_0_9 hT0) (by decide)) (rg_c (v := 1) (lo := 1) (hi := 1) (by decide)) (by decide)) (by decide)) (fun A hA => by have h1 := (hx_60 A hA); exact h1) hT hF hLF_60 hP hD hS (lv_sub hl [0, 3, 4, 5] rfl)
                    · refine lv_aload_n hx hb dX7_step_212 rfl (lv_at hl 5 rfl) ?_
                      refine lv_dup hx hb dX7_step_213 rfl ?_
                      refine va_get (D := D) (ci := 7) (v := .int (gi (C 0) 19)) (C := RX7) (T := TX7) (N := 29) hx hb htg ig_7 hown hK hP 0 (oh_wg (Nat.lt_of_lt_of_le (by decide) hn) (sM_0 hT)) rfl 19 (by decide) (htg _ q_992) (fun _ h9 => h9) (oh_fv (c := K60 0) (j := 19) rfl (Eq.trans (congrArg vi (hLF_60.2 19 (by decide))) (congrArg vi (f_11.2 19 (by decide))))) dX7_step_214 ?_
                      refine lv_aload_n hx hb dX7_step_217 rfl (lv_at hl 5 rfl) ?_
                      refine lv_iload_n hx hb dX7_step_218 rfl (lv_at hl 4 rfl) ?_
                      refine lv_iload_n hx hb dX7_step_219 rfl (lv_at hl 3 rfl) ?_
                      refine lv_iload_n hx hb dX7_step_220 rfl (lv_at hl 2 rfl) ?_
                      refine lv_iconst (v := 1) hx hb dX7_step_221 (by decide) ?_
                      refine tq_V (As := [.int (ga (C 14) ((1 : Int32)).toNatClampNeg), .int (ga (C 14) ((2 : Int32)).toNatClampNeg), .int z60_3, .int 1]) (rest := [.int (gi (C 0) 19), .ref (a 0)]) (ws := (oh_W n a K60)) ⟨hx, hb, hml, hown, htg⟩ (c_X7_coinOf l D E G a K60 n hn hT (ga (C 14) ((1 : Int32)).toNatClampNeg) (ga (C 14) ((2 : Int32)).toNatClampNeg) z60_3 (1 : Int32) (rg_w (tA_rdc (lo := 0) (hi := 4) (tM_14 hT0) (rg_in (rg_c (v := 1) (lo := 1) (hi := 1) (by decide)) (by decide)) (show _ = 1 by decide) (by decide)) (by decide)) (rg_w (rn_ltu (u' := 23) (Int32.not_le.mp c_14) hz60_3 (fM_0_9 hT0) (by decide)) (by decide)) (oh_posU (rg_w (tA_rdc (lo := 0) (hi := 4) (tM_14 hT0) (rg_in (rg_c (v := 1) (lo := 1) (hi := 1) (by decide)) (by decide)) (show _ = 1 by decide) (by decide)) (by decide)) (fun i hi => hLF_60.1 _ (inR_out hi (by decide)) (by omega)) (oh_posU (rg_w (tA_rdc (lo := 0) (hi := 4) (tM_14 hT0) (rg_in (rg_c (v := 1) (lo := 1) (hi := 1) (by decide)) (by decide)) (show _ = 1 by decide) (by decide)) (by decide)) (fun i hi => f_11.1 _ (inR_out hi (by decide)) (by omega)) (oh_posu hR.1 hT0 c_1)))) (cwV 4 htg (oh_gV q_1326 q_1328 q_56 q_73 q_1329) rfl rfl rfl pdVX7_coinOf ⟨Nat.le_of_ble_eq_true rfl, Nat.le_of_ble_eq_true rfl⟩) hK hP hG hS (va_recv hK hP (ci := 7) (q0 := 0) rfl (oh_wg (Nat.lt_of_lt_of_le (by decide) hn) (sM_0 hT))) rfl hl.1 rfl (Nat.le_of_ble_eq_true rfl) dX7_step_222 ⟨Nat.le_of_ble_eq_true rfl, Nat.le_of_ble_eq_true rfl⟩ (fun r_173 hq_174 => ?_)
                      refine lv_iadd hx hb dX7_step_225 ?_
                      refine th_put (Tp := TyM a E) (Rl := fr [(8, 9), (14, 15), (15, 16), (48, 64)] [19] C) (ci := 7) (v := .int ((gi (C 0) 19) + r_173)) (ty := .int) (CC := RX7) (T := TX7) (N := 29) hx hb htg ig_7 tyX7 tyX7_ok nmX7 hown hK hP hD hS 0 (Nat.lt_of_lt_of_le (by decide) hn) (sM_0 hT) rfl 19 (by decide) (htg _ q_992) (fun _ h9 => h9) rfl (by decide +kernel) rfl rfl (Nat.le_of_ble_eq_true rfl) (hT.up 0 (by decide) ⟨rfl, (fM_0_7 hT), (fM_0_9 hT), (fM_0_11 hT), (fM_0_13 hT), (fM_0_15 hT), (fM_0_21 hT), (fM_0_23 hT)⟩) (fr_fd hF (sM_0 hT) (by decide)) dX7_step_226 (fun C_175 H locs e_176 hT hF hP hD hS => ?_)
                      have t_177 := hT
                      refine lv_aload_n hx hb dX7_step_229 rfl (lv_at hl 5 rfl) ?_
                      refine va_get (D := D) (ci := 7) (v := .ref (a 14)) (C := RX7) (T := TX7) (N := 29) hx hb htg ig_7 hown hK hP 0 (oh_wg (Nat.lt_of_lt_of_le (by decide) hn) (sM_0 hT)) rfl 18 (by decide) (htg _ q_991) (fun _ h9 => h9) rfl dX7_step_230 ?_
                      refine lv_iconst (v := 5) hx hb dX7_step_233 (by decide) ?_
                      refine lv_dup2_11 hx hb dX7_step_234 rfl rfl ?_
                      refine th_iald hx hb hK hP 14 (Nat.lt_of_lt_of_le (by decide) hn) (Eq.trans (Eq.trans (th_un e_176 (by decide)) (Eq.trans (hLF_60.1 14 rfl (by decide)) (f_11.1 14 rfl (by decide)))) (sM_14 hT0)) (rg_in (rg_c (v := 5) (lo := 5) (hi := 5) (by decide)) (by decide)) dX7_step_235 ?_
                      refine lv_aload_n hx hb dX7_step_236 rfl (lv_at hl 5 rfl) ?_
                      refine lv_iload_n hx hb dX7_step_237 rfl (lv_at hl 4 rfl) ?_
                      refine lv_iload_n hx hb dX7_step_238 rfl (lv_at hl 3 rfl) ?_
                      refine lv_iload_n hx hb dX7_step_239 rfl (lv_at hl 2 rfl) ?_
                      refine tq_V (As := [.int (ga (C 14) ((1 : Int32)).toNatClampNeg), .int (ga (C 14) ((2 : Int32)).toNatClampNeg), .int z60_3]) (rest := [.int (ga (C 14) ((5 : Int32)).toNatClampNeg), .int 5, .ref (a 14)]) (ws := (oh_W n a C_175)) ⟨hx, hb, hml, hown, htg⟩ (c_X7_daysOf l D E G a C_175 n hn hT (ga (C 14) ((1 : Int32)).toNatClampNeg) (ga (C 14) ((2 : Int32)).toNatClampNeg) z60_3 (rg_w (tA_rdc (lo := 0) (hi := 4) (tM_14 hT0) (rg_in (rg_c (v := 1) (lo := 1) (hi := 1) (by decide)) (by decide)) (show _ = 1 by decide) (by decide)) (by decide)) (rg_w (rn_ltu (u' := 23) (Int32.not_le.mp c_14) hz60_3 (fM_0_9 hT0) (by decide)) (by decide)) (oh_posU (rg_w (tA_rdc (lo := 0) (hi := 4) (tM_14 hT0) (rg_in (rg_c (v := 1) (lo := 1) (hi := 1) (by decide)) (by decide)) (show _ = 1 by decide) (by decide)) (by decide)) (fun i hi => th_un e_176 (by omega)) (oh_posU (rg_w (tA_rdc (lo := 0) (hi := 4) (tM_14 hT0) (rg_in (rg_c (v := 1) (lo := 1) (hi := 1) (by decide)) (by decide)) (show _ = 1 by decide) (by decide)) (by decide)) (fun i hi => hLF_60.1 _ (inR_out hi (by decide)) (by omega)) (oh_posU (rg_w (tA_rdc (lo := 0) (hi := 4) (tM_14 hT0) (rg_in (rg_c (v := 1) (lo := 1) (hi := 1) (by decide)) (by decide)) (show _ = 1 by decide) (by decide)) (by decide)) (fun i hi => f_11.1 _ (inR_out hi (by decide)) (by omega)) (oh_posu hR.1 hT0 c_1))))) (cwV 3 htg (oh_gV q_1334 q_1336 q_58 q_73 q_1337) rfl rfl rfl pdVX7_daysOf ⟨Nat.le_of_ble_eq_true rfl, Nat.le_of_ble_eq_true rfl⟩) hK hP hG hS (va_recv hK hP (ci := 7) (q0 := 0) rfl (oh_wg (Nat.lt_of_lt_of_le (by decide) hn) (sM_0 hT))) rfl hl.1 rfl (Nat.le_of_ble_eq_true rfl) dX7_step_240 ⟨Nat.le_of_ble_eq_true rfl, Nat.le_of_ble_eq_true rfl⟩ (fun r_178 hq_179 => ?_)
                      refine lv_iadd hx hb dX7_step_243 ?_
                      refine th_iast (T := TyM a E) (Rl := fr [(8, 9), (14, 15), (15, 16), (48, 64)] [19] C) hx hb hK hP hD hS 14 (Nat.lt_of_lt_of_le (by decide) hn) (sM_14 hT) (rg_in (rg_c (v := 5) (lo := 5) (hi := 5) (by decide)) (by decide)) (hT.up 14 (by decide) (tA_upd (tM_14 hT) (tA_stc (show _ = 5 by decide) (rg_any _) (by decide)))) (fr_st hF (by decide) (by decide)) dX7_step_244 (fun C_180 H locs e_181 hT hF hP hD hS => ?_)
                      have t_182 := hT
                      refine lv_aload_n hx hb dX7_step_245 rfl (lv_at hl 5 rfl) ?_
                      refine va_get (D := D) (ci := 7) (v := .ref (a 14)) (C := RX7) (T := TX7) (N := 29) hx hb htg ig_7 hown hK hP 0 (oh_wg (Nat.lt_of_lt_of_le (by decide) hn) (sM_0 hT)) rfl 18 (by decide) (htg _ q_991) (fun _ h9 => h9) rfl dX7_step_246 ?_
                      refine lv_bipush (v := 6) hx hb dX7_step_249 (by decide) ?_
                      refine lv_dup2_11 hx hb dX7_step_251 rfl rfl ?_
                      refine th_iald hx hb hK hP 14 (Nat.lt_of_lt_of_le (by decide) hn) (sM_14 hT) (rg_in (rg_c (v := 6) (lo := 6) (hi := 6) (by decide)) (by decide)) dX7_step_252 ?_
                      refine lv_iconst (v := 1) hx hb dX7_step_253 (by decide) ?_
                      refine lv_iadd hx hb dX7_step_254 ?_
                      refine th_iast (T := TyM a E) (Rl := fr [(8, 9), (14, 15), (15, 16), (48, 64)] [19] C) hx hb hK hP hD hS 14 (Nat.lt_of_lt_of_le (by decide) hn) (sM_14 hT) (rg_in (rg_c (v := 6) (lo := 6) (hi := 6) (by decide)) (by decide)) (hT.up 14 (by decide) (tA_upd (tM_14 hT) (tA_stc (show _ = 6 by decide) (rg_any _) (by decide)))) (fr_st hF (by decide) (by decide)) dX7_step_255 (fun C_183 H locs e_184 hT hF hP hD hS => ?_)
                      have t_185 := hT
                      refine lv_aload_n hx hb dX7_step_256 rfl (lv_at hl 5 rfl) ?_
                      refine va_get (D := D) (ci := 7) (v := .ref (a 14)) (C := RX7) (T := TX7) (N := 29) hx hb htg ig_7 hown hK hP 0 (oh_wg (Nat.lt_of_lt_of_le (by decide) hn) (sM_0 hT)) rfl 18 (by decide) (htg _ q_991) (fun _ h9 => h9) rfl dX7_step_257 ?_
                      refine lv_iconst (v := 3) hx hb dX7_step_260 (by decide) ?_
                      refine lv_iload hx hb dX7_step_261 (lv_at hl 0 rfl) ?_
                      refine th_iast (T := TyM a E) (Rl := fr [(8, 9), (14, 15), (15, 16), (48, 64)] [19] C) hx hb hK hP hD hS 14 (Nat.lt_of_lt_of_le (by decide) hn) (sM_14 hT) (rg_in (rg_c (v := 3) (lo := 3) (hi := 3) (by decide)) (by decide)) (hT.up 14 (by decide) (tA_upd (tM_14 hT) (tA_stc (show _ = 3 by decide) (rn_eq c_113 (rn_eq c_123.symm (tA_rdc (lo := 0) (hi := 15) (hT0.broad b_122) (rg_in (rg_c (v := 0) (lo := 0) (hi := 0) (by decide)) (by decide)) (show _ = 0 by decide) (by decide)))) (by decide)))) (fr_st hF (by decide) (by decide)) dX7_step_263 (fun C_186 H locs e_187 hT hF hP hD hS => ?_)
                      have t_188 := hT
                      refine lv_iconst (v := 0) hx hb dX7_step_264 (by decide) ?_
                      refine lv_istore (lv' := [(6, .int 0), (5, .int (ga (C (24 + (z60_3).toNatClampNeg)) ((1 : Int32)).toNatClampNeg)), (4, .int 1), (3, .int z60_3), (2, .int (ga (C 14) ((2 : Int32)).toNatClampNeg)), (1, .int (ga (C 14) ((1 : Int32)).toNatClampNeg)), (0, .ref (a 0))]) hx hb dX7_step_265 hl (by decide) rfl (fun ls hl => ?_)
                      have L_267 : ∀ (d : Nat) (K267 : Nat → va_E) (z267_6 : Int32) (H : Heap) (locs : List Loc) (ls : Array Slot), (16 - z267_6.toInt).toNat = d → rg z267_6 0 16 → (∀ A : LA, absM C A → absM K267 A) → TyM a E K267 → fr [(8, 9), (14, 15), (15, 16), (48, 64)] [19] C K267 → fr [(48, 64)] [] C_186 K267 → va_P D vwCl (oh_W n a K267) H → va_D A (oh_W n a K267) → va_S A s.heap H locs → lv_has ls 7 [(6, .int z267_6), (5, .int (ga (C (24 + (z60_3).toNatClampNeg)) ((1 : Int32)).toNatClampNeg)), (4, .int 1), (3, .int z60_3), (2, .int (ga (C 14) ((2 : Int32)).toNatClampNeg)), (1, .int (ga (C 14) ((1 : Int32)).toNatClampNeg)), (0, .ref (a 0))] → W p l e ({ frames := 6, cells := 0, slots := 0, locals := 152 }) s m (([.ref (a 0)] : List Value).toArray) below meth c H locs 0 0 Q (F0 m 267 ls []) := by
                        intro d
                        induction d using Nat.strongRecOn with
                        | ind d ih_267 =>
                        intro K267 z267_6 H locs ls hd_267 hz267_6 hx_267 hT hF hLF_267 hP hD hS hl
                        have t_189 := hT
                        refine lv_iload hx hb dX7_step_267 (lv_at hl 0 rfl) ?_
                        refine lv_aload_n hx hb dX7_step_269 rfl (lv_at hl 6 rfl) ?_
                        refine va_get (D := D) (ci := 7) (v := .int (gi (C 0) 11)) (C := RX7) (T := TX7) (N := 29) hx hb htg ig_7 hown hK hP 0 (oh_wg (Nat.lt_of_lt_of_le (by decide) hn) (sM_0 hT)) rfl 11 (by decide) (htg _ q_984) (fun _ h9 => h9) (oh_fv (c := K267 0) (j := 11) rfl (Eq.trans (congrArg vi (hLF_267.2 11 (by decide))) (Eq.trans (congrArg (fun z => gi z 11) (th_un e_187 (by decide))) (Eq.trans (congrArg (fun z => gi z 11) (th_un e_184 (by decide))) (Eq.trans (congrArg (fun z => gi z 11) (th_un e_181 (by decide))) (Eq.trans (show gi (C_175 0) 11 = gi (K60 0) 11 by rw [e_176]; rfl) (Eq.trans (congrArg vi (hLF_60.2 11 (by decide))) (congrArg vi (f_11.2 11 (by decide)))))))))) dX7_step_270 ?_
                        refine lv_icmp_ge (tgt := 318) hx hb dX7_step_273 (by decide) (fun (c_190 : (gi (C 0) 11) ≤ z267_6) => ?_) (fun (c_190 : ¬ ((gi (C 0) 11) ≤ z267_6)) => ?_)
                        · refine lv_iload_n hx hb dX7_step_318 rfl (lv_at hl 3 rfl) ?_
                          rw [hQ]
                          exact W.iret (v := z60_3) hx hb hr (fun t ht hW => ⟨⟨z60_3, K267, rfl, ⟨hT, hF, ⟨⟨relW_mk hR.1 hF (by decide) (by rw [show ga (K267 14) 0 = ga (C 14) 0 by rw [(hLF_267.1 14 rfl (by decide)), (st_ga e_187), pk_un (by decide), (st_ga e_184), pk_un (by decide), (st_ga e_181), pk_un (by decide), (Eq.trans (th_un e_176 (by decide)) (Eq.trans (hLF_60.1 14 rfl (by decide)) (f_11.1 14 rfl (by decide))))], show ga (K267 14) 1 = ga (C 14) 1 by rw [(hLF_267.1 14 rfl (by decide)), (st_ga e_187), pk_un (by decide), (st_ga e_184), pk_un (by decide), (st_ga e_181), pk_un (by decide), (Eq.trans (th_un e_176 (by decide)) (Eq.trans (hLF_60.1 14 rfl (by decide)) (f_11.1 14 rfl (by decide))))]]; exact hR.1.2), hR.2.fr hF (by decide)⟩, (fun A hA => by have h1 := (hx_267 A hA); exact h1)⟩⟩, ⟨by rw [ht]; exact hP, hD⟩⟩, hS.F ht⟩) hS.2.2 dX7_step_319
                        · refine lv_aload_n hx hb dX7_step_276 rfl (lv_at hl 6 rfl) ?_
                          refine va_get (D := D) (ci := 7) (v := .ref (a 10)) (C := RX7) (T := TX7) (N := 29) hx hb htg ig_7 hown hK hP 0 (oh_wg (Nat.lt_of_lt_of_le (by decide) hn) (sM_0 hT)) rfl 12 (by decide) (htg _ q_985) (fun _ h9 => h9) rfl dX7_step_277 ?_
                          refine lv_iload hx hb dX7_step_280 (lv_at hl 0 rfl) ?_
                          have n_191 : vp_in z267_6 16 := (rg_in (rn_ltu (u' := 15) (Int32.not_le.mp c_190) hz267_6 (fM_0_11 hT0) (by decide)) (by decide))
                          have b_192 : (z267_6).toNatClampNeg < 16 := vp_lt n_191
                          refine th_aald hx hb hK hP 10 2 (Nat.lt_of_lt_of_le (by decide) hn) (sM_10 hT) rfl n_191 dX7_step_282 ?_
                          refine lv_iconst (v := 0) hx hb dX7_step_283 (by decide) ?_
                          refine th_iald hx hb hK hP (48 + (z267_6).toNatClampNeg) (lt_blk b_192 hn (by decide)) (hT.bbridge b_192).1 (rg_in (rg_c (v := 0) (lo := 0) (hi := 0) (by decide)) (by decide)) dX7_step_284 ?_
                          refine lv_iload_n hx hb dX7_step_285 rfl (lv_at hl 3 rfl) ?_
                          refine lv_icmp_ne (tgt := 312) hx hb dX7_step_286 (by decide) (fun (c_193 : ¬ ((ga (K267 (48 + (z267_6).toNatClampNeg)) ((0 : Int32)).toNatClampNeg) = z60_3)) => ?_) (fun (c_193 : (ga (K267 (48 + (z267_6).toNatClampNeg)) ((0 : Int32)).toNatClampNeg) = z60_3) => ?_)
                          · refine lv_iinc (v := z267_6 + 1) (lv' := [(6, .int (z267_6 + 1)), (5, .int (ga (C (24 + (z60_3).toNatClampNeg)) ((1 : Int32)).toNatClampNeg)), (4, .int 1), (3, .int z60_3), (2, .int (ga (C 14) ((2 : Int32)).toNatClampNeg)), (1, .int (ga (C 14) ((1 : Int32)).toNatClampNeg)), (0, .ref (a 0))]) hx hb dX7_step_312 hl (k := 0) rfl (by rfl) (by decide) rfl (fun ls hl => ?_)
                            refine lv_goto (tgt := 267) hx hb dX7_step_315 (by decide) ?_
                            exact ih_267 _ (hd_267 ▸ mu_up 16 (rn_ltu (u' := 15) (Int32.not_le.mp c_190) hz267_6 (fM_0_11 hT0) (by decide)) (by decide)) K267 (z267_6 + 1) _ _ ls rfl (rg_w (rg_add (lo := 1) (hi := 16) (rn_ltu (u' := 15) (Int32.not_le.mp c_190) hz267_6 (fM_0_11 hT0) (by decide)) (rg_c (v := 1) (lo := 1) (hi := 1) (by decide)) (by decide)) (by decide)) (fun A hA => by have h1 := (hx_267 A hA); exact h1) hT hF hLF_267 hP hD hS (lv_sub hl [0, 1, 2, 3, 4, 5, 6] rfl)
                          · refine lv_aload_n hx hb dX7_step_289 rfl (lv_at hl 6 rfl) ?_
                            refine lv_iload_n hx hb dX7_step_290 rfl (lv_at hl 5 rfl) ?_
                            refine lv_iload_n hx hb dX7_step_291 rfl (lv_at hl 4 rfl) ?_
                            refine lv_iload hx hb dX7_step_292 (lv_at hl 0 rfl) ?_
                            refine tq_V (As := [.int (ga (C 14) ((1 : Int32)).toNatClampNeg), .int (ga (C 14) ((2 : Int32)).toNatClampNeg), .int z267_6]) (rest := []) (ws := (oh_W n a K267)) ⟨hx, hb, hml, hown, htg⟩ (c_X7_needsOf l D E G a K267 n hn hT (ga (C 14) ((1 : Int32)).toNatClampNeg) (ga (C 14) ((2 : Int32)).toNatClampNeg) z267_6 (rg_w (tA_rdc (lo := 0) (hi := 4) (tM_14 hT0) (rg_in (rg_c (v := 1) (lo := 1) (hi := 1) (by decide)) (by decide)) (show _ = 1 by decide) (by decide)) (by decide)) (rg_w (rn_ltu (u' := 15) (Int32.not_le.mp c_190) hz267_6 (fM_0_11 hT0) (by decide)) (by decide)) (oh_posU (rg_w (tA_rdc (lo := 0) (hi := 4) (tM_14 hT0) (rg_in (rg_c (v := 1) (lo := 1) (hi := 1) (by decide)) (by decide)) (show _ = 1 by decide) (by decide)) (by decide)) (fun i hi => hLF_267.1 _ (inR_out hi (by decide)) (by omega)) (oh_posU (rg_w (tA_rdc (lo := 0) (hi := 4) (tM_14 hT0) (rg_in (rg_c (v := 1) (lo := 1) (hi := 1) (by decide)) (by decide)) (show _ = 1 by decide) (by decide)) (by decide)) (fun i hi => th_un e_187 (by omega)) (oh_posU (rg_w (tA_rdc (lo := 0) (hi := 4) (tM_14 hT0) (rg_in (rg_c (v := 1) (lo := 1) (hi := 1) (by decide)) (by decide)) (show _ = 1 by decide) (by decide)) (by decide)) (fun i hi => th_un e_184 (by omega)) (oh_posU (rg_w (tA_rdc (lo := 0) (hi := 4) (tM_14 hT0) (rg_in (rg_c (v := 1) (lo := 1) (hi := 1) (by decide)) (by decide)) (show _ = 1 by decide) (by decide)) (by decide)) (fun i hi => th_un e_181 (by omega)) (oh_posU (rg_w (tA_rdc (lo := 0) (hi := 4) (tM_14 hT0) (rg_in (rg_c (v := 1) (lo := 1) (hi := 1) (by decide)) (by decide)) (show _ = 1 by decide) (by decide)) (by decide)) (fun i hi => th_un e_176 (by omega)) (oh_posU (rg_w (tA_rdc (lo := 0) (hi := 4) (tM_14 hT0) (rg_in (rg_c (v := 1) (lo := 1) (hi := 1) (by decide)) (by decide)) (show _ = 1 by decide) (by decide)) (by decide)) (fun i hi => hLF_60.1 _ (inR_out hi (by decide)) (by omega)) (oh_posU (rg_w (tA_rdc (lo := 0) (hi := 4) (tM_14 hT0) (rg_in (rg_c (v := 1) (lo := 1) (hi := 1) (by decide)) (by decide)) (show _ = 1 by decide) (by decide)) (by decide)) (fun i hi => f_11.1 _ (inR_out hi (by decide)) (by omega)) (oh_posu hR.1 hT0 c_1))))))))) (cwV 3 htg (oh_gV q_1310 q_1312 q_53 q_73 q_1313) rfl rfl rfl pdVX7_needsOf ⟨Nat.le_of_ble_eq_true rfl, Nat.le_of_ble_eq_true rfl⟩) hK hP hG hS (va_recv hK hP (ci := 7) (q0 := 0) rfl (oh_wg (Nat.lt_of_lt_of_le (by decide) hn) (sM_0 hT))) rfl hl.1 rfl (Nat.le_of_ble_eq_true rfl) dX7_step_294 ⟨Nat.le_of_ble_eq_true rfl, Nat.le_of_ble_eq_true rfl⟩ (fun r_194 hq_195 => ?_)
                            refine lv_iconst (v := 1) hx hb dX7_step_297 (by decide) ?_
                            refine lv_icmp_ne (tgt := 312) hx hb dX7_step_298 (by decide) (fun (c_196 : ¬ (r_194 = 1)) => ?_) (fun (c_196 : r_194 = 1) => ?_)
                            · refine lv_iinc (v := z267_6 + 1) (lv' := [(6, .int (z267_6 + 1)), (5, .int (ga (C (24 + (z60_3).toNatClampNeg)) ((1 : Int32)).toNatClampNeg)), (4, .int 1), (3, .int z60_3), (2, .int (ga (C 14) ((2 : Int32)).toNatClampNeg)), (1, .int (ga (C 14) ((1 : Int32)).toNatClampNeg)), (0, .ref (a 0))]) hx hb dX7_step_312 hl (k := 0) rfl (by rfl) (by decide) rfl (fun ls hl => ?_)
                              refine lv_goto (tgt := 267) hx hb dX7_step_315 (by decide) ?_
                              exact ih_267 _ (hd_267 ▸ mu_up 16 (rn_ltu (u' := 15) (Int32.not_le.mp c_190) hz267_6 (fM_0_11 hT0) (by decide)) (by decide)) K267 (z267_6 + 1) _ _ ls rfl (rg_w (rg_add (lo := 1) (hi := 16) (rn_ltu (u' := 15) (Int32.not_le.mp c_190) hz267_6 (fM_0_11 hT0) (by decide)) (rg_c (v := 1) (lo := 1) (hi := 1) (by decide)) (by decide)) (by decide)) (fun A hA => by have h1 := (hx_267 A hA); exact h1) hT hF hLF_267 hP hD hS (lv_sub hl [0, 1, 2, 3, 4, 5, 6] rfl)
                            · refine lv_aload_n hx hb dX7_step_301 rfl (lv_at hl 6 rfl) ?_
                              refine va_get (D := D) (ci := 7) (v := .ref (a 10)) (C := RX7) (T := TX7) (N := 29) hx hb htg ig_7 hown hK hP 0 (oh_wg (Nat.lt_of_lt_of_le (by decide) hn) (sM_0 hT)) rfl 12 (by decide) (htg _ q_985) (fun _ h9 => h9) rfl dX7_step_302 ?_
                              refine lv_iload hx hb dX7_step_305 (lv_at hl 0 rfl) ?_
                              have n_197 : vp_in z267_6 16 := (rg_in (rn_ltu (u' := 15) (Int32.not_le.mp c_190) hz267_6 (fM_0_11 hT0) (by decide)) (by decide))
                              have b_198 : (z267_6).toNatClampNeg < 16 := vp_lt n_197
                              refine th_aald hx hb hK hP 10 2 (Nat.lt_of_lt_of_le (by decide) hn) (sM_10 hT) rfl n_197 dX7_step_307 ?_
                              refine lv_bipush (v := 7) hx hb dX7_step_308 (by decide) ?_
                              refine lv_iconst (v := 1) hx hb dX7_step_310 (by decide) ?_
                              refine th_iast (T := TyM a E) (Rl := fr [(8, 9), (14, 15), (15, 16), (48, 64)] [19] C) hx hb hK hP hD hS (48 + (z267_6).toNatClampNeg) (lt_blk b_198 hn (by decide)) (hT.bbridge b_198).1 (rg_in (rg_c (v := 7) (lo := 7) (hi := 7) (by decide)) (by decide)) (hT.upbridge b_198 (tA_upd (hT.bbridge b_198) tA_any)) (fr_st hF (by omega) (inR_of (p := (48, 64)) (by decide) (by show 48 ≤ _; omega) (by show _ < 64; omega))) dX7_step_311 (fun C_199 H locs e_200 hT hF hP hD hS => ?_)
                              have t_201 := hT
                              refine lv_iinc (v := z267_6 + 1) (lv' := [(6, .int (z267_6 + 1)), (5, .int (ga (C (24 + (z60_3).toNatClampNeg)) ((1 : Int32)).toNatClampNeg)), (4, .int 1), (3, .int z60_3), (2, .int (ga (C 14) ((2 : Int32)).toNatClampNeg)), (1, .int (ga (C 14) ((1 : Int32)).toNatClampNeg)), (0, .ref (a 0))]) hx hb dX7_step_312 hl (k := 0) rfl (by rfl) (by decide) rfl (fun ls hl => ?_)
                              refine lv_goto (tgt := 267) hx hb dX7_step_315 (by decide) ?_
                              exact ih_267 _ (hd_267 ▸ mu_up 16 (rn_ltu (u' := 15) (Int32.not_le.mp c_190) hz267_6 (fM_0_11 hT0) (by decide)) (by decide)) C_199 (z267_6 + 1) _ _ ls rfl (rg_w (rg_add (lo := 1) (hi := 16) (rn_ltu (u' := 15) (Int32.not_le.mp c_190) hz267_6 (fM_0_11 hT0) (by decide)) (rg_c (v := 1) (lo := 1) (hi := 1) (by decide)) (by decide)) (by decide)) (fun A hA => by have h1 := (hx_267 A hA); have h2 := absM_st (t := 1) t_189 h1 (by decide) (show (z267_6).toNatClampNeg < 16 from b_198) e_200; have h3 := absM_vis h2; exact h3) hT hF (fr_ste hLF_267 e_200 (by omega) (inR_of (p := (48, 64)) (by decide) (by show 48 ≤ _; omega) (by show _ < 64; omega))) hP hD hS (lv_sub hl [0, 1, 2, 3, 4, 5, 6] rfl)
                      exact L_267 _ C_186 0 _ _ ls rfl (rg_w (rg_c (v := 0) (lo := 0) (hi := 0) (by decide)) (by decide)) (fun A hA => by have h1 := (hx_60 A hA); have h2 := absM_fr h1 t_13 (show fr [(14, 15)] [19] K60 C_186 from (fr_ste (fr_ste (fr_ste (fr_fde fr_rf e_176 (sM_0 t_13) (by decide)) e_181 (by decide) (by decide)) e_184 (by decide) (by decide)) e_187 (by decide) (by decide))) (by decide) (by decide) (by decide); exact h2) hT hF fr_rf hP hD hS (lv_sub hl [0, 1, 2, 3, 4, 5, 6] rfl)
      exact L_60 _ C_9 0 _ _ ls rfl (rg_w (rg_c (v := 0) (lo := 0) (hi := 0) (by decide)) (by decide)) (fun A hA => by have h1 := hA; have h2 := absM_fr h1 hT0 (show fr [(15, 16)] [] C C_9 from (fr_tr fr_rf f_11 (by decide) (by decide))) (by decide) (by decide) (by decide); exact h2) hT hF fr_rf hP hD hS (lv_sub hl [0, 1, 2, 3] rfl)
    · refine lv_aload_n hx hb dX7_step_24 rfl (lv_at hl 0 rfl) ?_
      refine lv_bipush (v := (-5)) hx hb dX7_step_25 (by decide) ?_
      refine tm_V (As := [.int (-5)]) (rest := []) ⟨hx, hb, hml, hown, htg⟩ (c_X7_refuse l D E G _ a C n hn hT ((-5) : Int32) (rg_w (rg_c (v := (-5)) (lo := (-5)) (hi := (-5)) (by decide)) (by decide))) (cwV 1 htg (oh_gV q_1071 q_1073 q_29 q_73 q_1074) rfl rfl rfl pdVX7_refuse ⟨Nat.le_of_ble_eq_true rfl, Nat.le_of_ble_eq_true rfl⟩) hK hP hD hG hS hA (va_recv hK hP (ci := 7) (q0 := 0) rfl (oh_wg (Nat.lt_of_lt_of_le (by decide) hn) (sM_0 hT))) rfl hl.1 rfl (Nat.le_of_ble_eq_true rfl) dX7_step_27 ⟨Nat.le_of_ble_eq_true rfl, Nat.le_of_ble_eq_true rfl⟩ (fun r_202 C_203 H locs hq_204 hP hD hS => ?_)
      obtain ⟨hT, f_205, hq_204⟩ := hq_204
      have hF := fr_tr hF f_205 (by decide) (by decide)
      refine W.widen (k := 0) (n := 0) (Nat.le_refl _) (Nat.le_refl _) ?_
      have t_206 := hT
      rw [hQ]
      exact W.iret (v := r_202) hx hb hr (fun t ht hW => ⟨⟨r_202, C_203, rfl, ⟨hT, hF, ⟨⟨(RelW.fr hR.1 f_205 (by decide)), hR.2.fr hF (by decide)⟩, (fun A hA => by have h1 := hA; have h2 := absM_fr h1 hT0 (show fr [(8, 9)] [] C C_203 from (fr_tr fr_rf f_205 (by decide) (by decide))) (by decide) (by decide) (by decide); exact h2)⟩⟩, ⟨by rw [ht]; exact hP, hD⟩⟩, hS.F ht⟩) hS.2.2 dX7_step_30

set_option maxHeartbeats 4000000 in
set_option maxRecDepth 100000 in
theorem e_X7_most (l : Launch) (D : va_G) (E : Nat → ClassId) (G : Nat → Nat) (sz : Nat) (a : Nat → Nat) (C : Nat → va_E) (n : Nat) (hn : 74 ≤ n) (hT : TyM a E C) (x1 : Int32) (x2 : Int32) (x3 : Int32) (hR : RelM C) : Met l yX7_most (oh_w yX7_most cX7_most 8 (some .int)) ({ frames := 7, cells := 0, slots := 0, locals := 177 }) (oh_Pm D E G [.ref (a 0), .int x1, .int x2, .int x3] (oh_W n a C) sz) (va_Qi (fun r (u : Nat → va_E) => TyM a E u ∧ fr [(8, 9), (13, 14), (15, 16)] [] C u ∧ (RelM u) ∧ (ga (u 13) = ga (C 13))) (oh_B D (va_A (oh_W n a C) sz) (fun u => oh_W n a u)) (va_A (oh_W n a C) sz)) 0 0 (va_A (oh_W n a C) sz) := by
  refine Met.ofW (cc := cX7_most) (maxL := 8) (ret := (some .int)) (by decide) rfl ?_
  intro p e s m args below meth c s₁ B hml hv
  obtain ⟨rfl, hsz, hP, hK, hD0, hG⟩ := hv
  have hx := B.exec
  have hb := B.bytes
  have hr := B.returns
  have hts := atoms_spec (ws := (oh_w yX7_most cX7_most 8 (some .int))) B.pre
  have htg : ∀ w ∈ oh_t, w.before _ s = true := fun w h => hts w (List.mem_cons_of_mem _ h)
  have hown : s.vm.findClass RX7 = some m.cls := findClass_of_methodNamed B.named
  have hlocks := B.notSynchronized
  have hT0 := hT
  subst hsz
  have hD := hD0.self (sz := s.heap.size)
  generalize hAe : va_A (oh_W n a C) s.heap.size = A at hD hG ⊢
  have hA : ∀ q : Nat, s.heap.size ≤ q → A q := fun q h => by rw [← hAe]; exact Or.inr h
  have hS : va_S A s.heap s.heap [] := va_S.rf
  have hF : fr [(8, 9), (13, 14), (15, 16)] [] C C := fr_rf
  have hl := lv_entry ([.ref (a 0), .int x1, .int x2, .int x3]) (n := 8) (Nat.le_of_ble_eq_true rfl)
  rw [lg_entry_eq]
  generalize (lg_sl ([.ref (a 0), .int x1, .int x2, .int x3]) ++ List.replicate (8 - (lg_sl ([.ref (a 0), .int x1, .int x2, .int x3])).length) Slot.unset).toArray = ls at hl ⊢
  have hl : lv_has ls 8 [(0, .ref (a 0)), (1, .int x1), (2, .int x2), (3, .int x3)] := hl
  refine oh_genQ (fun Q hQ => ?_)
  refine lv_aload_n hx hb dX7_most_0 rfl (lv_at hl 0 rfl) ?_
  refine lv_iload_n hx hb dX7_most_1 rfl (lv_at hl 1 rfl) ?_
  refine tq_V (As := [.int x1]) (rest := []) (ws := (oh_W n a C)) ⟨hx, hb, hml, hown, htg⟩ (c_X7_isWaggon l D E G a C n hn hT x1 hR.1) (cwV 1 htg (oh_gV q_1278 q_1280 q_48 q_73 q_1281) rfl rfl rfl pdVX7_isWaggon ⟨Nat.le_of_ble_eq_true rfl, Nat.le_of_ble_eq_true rfl⟩) hK hP hG hS (va_recv hK hP (ci := 7) (q0 := 0) rfl (oh_wg (Nat.lt_of_lt_of_le (by decide) hn) (sM_0 hT))) rfl hl.1 rfl (Nat.le_of_ble_eq_true rfl) dX7_most_2 ⟨Nat.le_of_ble_eq_true rfl, Nat.le_of_ble_eq_true rfl⟩ (fun r_1 hq_2 => ?_)
  refine lv_if_eq (tgt := 22) hx hb dX7_most_5 (by decide) (fun (c_3 : r_1 = 0) => ?_) (fun (c_3 : ¬ (r_1 = 0)) => ?_)
  · refine lv_aload_n hx hb dX7_most_22 rfl (lv_at hl 0 rfl) ?_
    refine lv_bipush (v := (-2)) hx hb dX7_most_23 (by decide) ?_
    refine tm_V (As := [.int (-2)]) (rest := []) ⟨hx, hb, hml, hown, htg⟩ (c_X7_refuse l D E G _ a C n hn hT ((-2) : Int32) (rg_w (rg_c (v := (-2)) (lo := (-2)) (hi := (-2)) (by decide)) (by decide))) (cwV 1 htg (oh_gV q_1071 q_1073 q_29 q_73 q_1074) rfl rfl rfl pdVX7_refuse ⟨Nat.le_of_ble_eq_true rfl, Nat.le_of_ble_eq_true rfl⟩) hK hP hD hG hS hA (va_recv hK hP (ci := 7) (q0 := 0) rfl (oh_wg (Nat.lt_of_lt_of_le (by decide) hn) (sM_0 hT))) rfl hl.1 rfl (Nat.le_of_ble_eq_true rfl) dX7_most_25 ⟨Nat.le_of_ble_eq_true rfl, Nat.le_of_ble_eq_true rfl⟩ (fun r_4 C_5 H locs hq_6 hP hD hS => ?_)
    obtain ⟨hT, f_7, hq_6⟩ := hq_6
    have hF := fr_tr hF f_7 (by decide) (by decide)
    refine W.widen (k := 0) (n := 0) (Nat.le_refl _) (Nat.le_refl _) ?_
    have t_8 := hT
    rw [hQ]
    exact W.iret (v := r_4) hx hb hr (fun t ht hW => ⟨⟨r_4, C_5, rfl, ⟨hT, hF, ⟨⟨hR.1.fr hF (by decide), hR.2.fr hF (by decide)⟩, (congrArg ga (f_7.1 13 rfl (by decide)))⟩⟩, ⟨by rw [ht]; exact hP, hD⟩⟩, hS.F ht⟩) hS.2.2 dX7_most_28
  · have u_9 := hq_2.2 c_3
    refine lv_iload_n hx hb dX7_most_8 rfl (lv_at hl 2 rfl) ?_
    refine tq_S (As := [.int x2]) (rest := []) (ws := []) ⟨hx, hb, hml, hown, htg⟩ (e_X7_isPlace l D E G x2) (va_cwS 1 htg (oh_gS q_1130 q_1131 q_73 q_1132) rfl rfl rfl pdX7_isPlace ⟨Nat.le_of_ble_eq_true rfl, Nat.le_of_ble_eq_true rfl⟩) hK va_nil hG hS rfl hl.1 rfl (Nat.le_of_ble_eq_true rfl) dX7_most_9 ⟨Nat.le_of_ble_eq_true rfl, Nat.le_of_ble_eq_true rfl⟩ (fun r_10 hq_11 => ?_)
    refine lv_if_eq (tgt := 22) hx hb dX7_most_12 (by decide) (fun (c_12 : r_10 = 0) => ?_) (fun (c_12 : ¬ (r_10 = 0)) => ?_)
    · have u_13 := hq_11.2.2 c_12
      refine lv_aload_n hx hb dX7_most_22 rfl (lv_at hl 0 rfl) ?_
      refine lv_bipush (v := (-2)) hx hb dX7_most_23 (by decide) ?_
      refine tm_V (As := [.int (-2)]) (rest := []) ⟨hx, hb, hml, hown, htg⟩ (c_X7_refuse l D E G _ a C n hn hT ((-2) : Int32) (rg_w (rg_c (v := (-2)) (lo := (-2)) (hi := (-2)) (by decide)) (by decide))) (cwV 1 htg (oh_gV q_1071 q_1073 q_29 q_73 q_1074) rfl rfl rfl pdVX7_refuse ⟨Nat.le_of_ble_eq_true rfl, Nat.le_of_ble_eq_true rfl⟩) hK hP hD hG hS hA (va_recv hK hP (ci := 7) (q0 := 0) rfl (oh_wg (Nat.lt_of_lt_of_le (by decide) hn) (sM_0 hT))) rfl hl.1 rfl (Nat.le_of_ble_eq_true rfl) dX7_most_25 ⟨Nat.le_of_ble_eq_true rfl, Nat.le_of_ble_eq_true rfl⟩ (fun r_14 C_15 H locs hq_16 hP hD hS => ?_)
      obtain ⟨hT, f_17, hq_16⟩ := hq_16
      have hF := fr_tr hF f_17 (by decide) (by decide)
      refine W.widen (k := 0) (n := 0) (Nat.le_refl _) (Nat.le_refl _) ?_
      have t_18 := hT
      rw [hQ]
      exact W.iret (v := r_14) hx hb hr (fun t ht hW => ⟨⟨r_14, C_15, rfl, ⟨hT, hF, ⟨⟨hR.1.fr hF (by decide), hR.2.fr hF (by decide)⟩, (congrArg ga (f_17.1 13 rfl (by decide)))⟩⟩, ⟨by rw [ht]; exact hP, hD⟩⟩, hS.F ht⟩) hS.2.2 dX7_most_28
    · have u_19 := hq_11.2.1 c_12
      refine lv_iload_n hx hb dX7_most_15 rfl (lv_at hl 3 rfl) ?_
      refine tq_S (As := [.int x3]) (rest := []) (ws := []) ⟨hx, hb, hml, hown, htg⟩ (e_X7_isPlace l D E G x3) (va_cwS 1 htg (oh_gS q_1130 q_1131 q_73 q_1132) rfl rfl rfl pdX7_isPlace ⟨Nat.le_of_ble_eq_true rfl, Nat.le_of_ble_eq_true rfl⟩) hK va_nil hG hS rfl hl.1 rfl (Nat.le_of_ble_eq_true rfl) dX7_most_16 ⟨Nat.le_of_ble_eq_true rfl, Nat.le_of_ble_eq_true rfl⟩ (fun r_20 hq_21 => ?_)
      refine lv_if_ne (tgt := 29) hx hb dX7_most_19 (by decide) (fun (c_22 : ¬ (r_20 = 0)) => ?_) (fun (c_22 : r_20 = 0) => ?_)
      · have u_23 := hq_21.2.1 c_22
        refine lv_aload_n hx hb dX7_most_29 rfl (lv_at hl 0 rfl) ?_
        refine va_get (D := D) (ci := 7) (v := .ref (a 13)) (C := RX7) (T := TX7) (N := 29) hx hb htg ig_7 hown hK hP 0 (oh_wg (Nat.lt_of_lt_of_le (by decide) hn) (sM_0 hT)) rfl 17 (by decide) (htg _ q_990) (fun _ h9 => h9) rfl dX7_most_30 ?_
        refine lv_iconst (v := 0) hx hb dX7_most_33 (by decide) ?_
        refine th_iald hx hb hK hP 13 (Nat.lt_of_lt_of_le (by decide) hn) (sM_13 hT) (rg_in (rg_c (v := 0) (lo := 0) (hi := 0) (by decide)) (by decide)) dX7_most_34 ?_
        refine lv_istore (lv' := [(4, .int (ga (C 13) ((0 : Int32)).toNatClampNeg)), (0, .ref (a 0)), (1, .int x1), (2, .int x2), (3, .int x3)]) hx hb dX7_most_35 hl (by decide) rfl (fun ls hl => ?_)
        refine lv_iconst (v := (-1)) hx hb dX7_most_37 (by decide) ?_
        refine lv_istore (lv' := [(5, .int (-1)), (4, .int (ga (C 13) ((0 : Int32)).toNatClampNeg)), (0, .ref (a 0)), (1, .int x1), (2, .int x2), (3, .int x3)]) hx hb dX7_most_38 hl (by decide) rfl (fun ls hl => ?_)
        refine lv_iconst (v := 0) hx hb dX7_most_40 (by decide) ?_
        refine lv_istore (lv' := [(6, .int 0), (5, .int (-1)), (4, .int (ga (C 13) ((0 : Int32)).toNatClampNeg)), (0, .ref (a 0)), (1, .int x1), (2, .int x2), (3, .int x3)]) hx hb dX7_most_41 hl (by decide) rfl (fun ls hl => ?_)
        refine lv_sipush (v := 900) hx hb dX7_most_43 (by decide) ?_
        refine lv_istore (lv' := [(7, .int 900), (6, .int 0), (5, .int (-1)), (4, .int (ga (C 13) ((0 : Int32)).toNatClampNeg)), (0, .ref (a 0)), (1, .int x1), (2, .int x2), (3, .int x3)]) hx hb dX7_most_46 hl (by decide) rfl (fun ls hl => ?_)
        have L_48 : ∀ (d : Nat) (K48 : Nat → va_E) (z48_7 : Int32) (z48_6 : Int32) (z48_5 : Int32) (H : Heap) (locs : List Loc) (ls : Array Slot), (z48_7.toInt - z48_6.toInt + 1).toNat = d → rg z48_7 (-1) 900 → rg z48_6 0 901 → (∀ j, j ≠ 0 → ga (K48 13) j = ga (C 13) j) → TyM a E K48 → fr [(8, 9), (13, 14), (15, 16)] [] C K48 → fr [(13, 14), (15, 16)] [] C K48 → va_P D vwCl (oh_W n a K48) H → va_D A (oh_W n a K48) → va_S A s.heap H locs → lv_has ls 8 [(7, .int z48_7), (6, .int z48_6), (5, .int z48_5), (4, .int (ga (C 13) ((0 : Int32)).toNatClampNeg)), (0, .ref (a 0)), (1, .int x1), (2, .int x2), (3, .int x3)] → W p l e ({ frames := 7, cells := 0, slots := 0, locals := 177 }) s m (([.ref (a 0), .int x1, .int x2, .int x3] : List Value).toArray) below meth c H locs 0 0 Q (F0 m 48 ls []) := by
          intro d
          induction d using Nat.strongRecOn with
          | ind d ih_48 =>
          intro K48 z48_7 z48_6 z48_5 H locs ls hd_48 hz48_7 hz48_6 hx_48 hT hF hLF_48 hP hD hS hl
          have t_24 := hT
          refine lv_iload hx hb dX7_most_48 (lv_at hl 1 rfl) ?_
          refine lv_iload hx hb dX7_most_50 (lv_at hl 0 rfl) ?_
          refine lv_icmp_gt (tgt := 115) hx hb dX7_most_52 (by decide) (fun (c_25 : z48_7 < z48_6) => ?_) (fun (c_25 : ¬ (z48_7 < z48_6)) => ?_)
          · refine lv_aload_n hx hb dX7_most_115 rfl (lv_at hl 4 rfl) ?_
            refine va_get (D := D) (ci := 7) (v := .ref (a 13)) (C := RX7) (T := TX7) (N := 29) hx hb htg ig_7 hown hK hP 0 (oh_wg (Nat.lt_of_lt_of_le (by decide) hn) (sM_0 hT)) rfl 17 (by decide) (htg _ q_990) (fun _ h9 => h9) rfl dX7_most_116 ?_
            refine lv_iconst (v := 0) hx hb dX7_most_119 (by decide) ?_
            refine lv_iload hx hb dX7_most_120 (lv_at hl 3 rfl) ?_
            refine th_iast (T := TyM a E) (Rl := fr [(8, 9), (13, 14), (15, 16)] [] C) hx hb hK hP hD hS 13 (Nat.lt_of_lt_of_le (by decide) hn) (sM_13 hT) (rg_in (rg_c (v := 0) (lo := 0) (hi := 0) (by decide)) (by decide)) (hT.up 13 (by decide) (tA_upd (tM_13 hT) tA_any)) (fr_st hF (by decide) (by decide)) dX7_most_122 (fun C_26 H locs e_27 hT hF hP hD hS => ?_)
            have t_28 := hT
            refine lv_iload hx hb dX7_most_123 (lv_at hl 2 rfl) ?_
            refine lv_iconst (v := (-1)) hx hb dX7_most_125 (by decide) ?_
            refine lv_icmp_ne (tgt := 138) hx hb dX7_most_126 (by decide) (fun (c_29 : ¬ (z48_5 = (-1))) => ?_) (fun (c_29 : z48_5 = (-1)) => ?_)
            · refine lv_iload hx hb dX7_most_138 (lv_at hl 2 rfl) ?_
              rw [hQ]
              exact W.iret (v := z48_5) hx hb hr (fun t ht hW => ⟨⟨z48_5, C_26, rfl, ⟨hT, hF, ⟨⟨hR.1.fr hF (by decide), hR.2.fr hF (by decide)⟩, (by rw [st_ga e_27]; exact upd0 (fun j hj => (hx_48 j hj)))⟩⟩, ⟨by rw [ht]; exact hP, hD⟩⟩, hS.F ht⟩) hS.2.2 dX7_most_140
            · refine lv_aload_n hx hb dX7_most_129 rfl (lv_at hl 4 rfl) ?_
              refine lv_bipush (v := (-5)) hx hb dX7_most_130 (by decide) ?_
              refine tm_V (As := [.int (-5)]) (rest := []) ⟨hx, hb, hml, hown, htg⟩ (c_X7_refuse l D E G _ a C_26 n hn hT ((-5) : Int32) (rg_w (rg_c (v := (-5)) (lo := (-5)) (hi := (-5)) (by decide)) (by decide))) (cwV 1 htg (oh_gV q_1071 q_1073 q_29 q_73 q_1074) rfl rfl rfl pdVX7_refuse ⟨Nat.le_of_ble_eq_true rfl, Nat.le_of_ble_eq_true rfl⟩) hK hP hD hG hS hA (va_recv hK hP (ci := 7) (q0 := 0) rfl (oh_wg (Nat.lt_of_lt_of_le (by decide) hn) (sM_0 hT))) rfl hl.1 rfl (Nat.le_of_ble_eq_true rfl) dX7_most_132 ⟨Nat.le_of_ble_eq_true rfl, Nat.le_of_ble_eq_true rfl⟩ (fun r_30 C_31 H locs hq_32 hP hD hS => ?_)
              obtain ⟨hT, f_33, hq_32⟩ := hq_32
              have hF := fr_tr hF f_33 (by decide) (by decide)
              refine W.widen (k := 0) (n := 0) (Nat.le_refl _) (Nat.le_refl _) ?_
              have t_34 := hT
              refine lv_goto (tgt := 140) hx hb dX7_most_135 (by decide) ?_
              rw [hQ]
              exact W.iret (v := r_30) hx hb hr (fun t ht hW => ⟨⟨r_30, C_31, rfl, ⟨hT, hF, ⟨⟨hR.1.fr hF (by decide), hR.2.fr hF (by decide)⟩, (by rw [(f_33.1 13 rfl (by decide)), st_ga e_27]; exact upd0 (fun j hj => (hx_48 j hj)))⟩⟩, ⟨by rw [ht]; exact hP, hD⟩⟩, hS.F ht⟩) hS.2.2 dX7_most_140
          · refine lv_aload_n hx hb dX7_most_55 rfl (lv_at hl 4 rfl) ?_
            refine va_get (D := D) (ci := 7) (v := .ref (a 13)) (C := RX7) (T := TX7) (N := 29) hx hb htg ig_7 hown hK hP 0 (oh_wg (Nat.lt_of_lt_of_le (by decide) hn) (sM_0 hT)) rfl 17 (by decide) (htg _ q_990) (fun _ h9 => h9) rfl dX7_most_56 ?_
            refine lv_iconst (v := 0) hx hb dX7_most_59 (by decide) ?_
            refine lv_iload hx hb dX7_most_60 (lv_at hl 1 rfl) ?_
            refine lv_iload hx hb dX7_most_62 (lv_at hl 0 rfl) ?_
            refine lv_iadd hx hb dX7_most_64 ?_
            refine lv_iconst (v := 2) hx hb dX7_most_65 (by decide) ?_
            refine lv_idiv hx hb dX7_most_66 (by decide) ?_
            refine th_iast (T := TyM a E) (Rl := fr [(8, 9), (13, 14), (15, 16)] [] C) hx hb hK hP hD hS 13 (Nat.lt_of_lt_of_le (by decide) hn) (sM_13 hT) (rg_in (rg_c (v := 0) (lo := 0) (hi := 0) (by decide)) (by decide)) (hT.up 13 (by decide) (tA_upd (tM_13 hT) tA_any)) (fr_st hF (by decide) (by decide)) dX7_most_67 (fun C_35 H locs e_36 hT hF hP hD hS => ?_)
            have t_37 := hT
            refine lv_aload_n hx hb dX7_most_68 rfl (lv_at hl 4 rfl) ?_
            refine lv_iload_n hx hb dX7_most_69 rfl (lv_at hl 5 rfl) ?_
            refine lv_iconst (v := 0) hx hb dX7_most_70 (by decide) ?_
            refine lv_iload_n hx hb dX7_most_71 rfl (lv_at hl 6 rfl) ?_
            refine lv_iload_n hx hb dX7_most_72 rfl (lv_at hl 7 rfl) ?_
            refine lv_iconst (v := 1) hx hb dX7_most_73 (by decide) ?_
            refine tm_V (As := [.int x1, .int 0, .int x2, .int x3, .int 1]) (rest := []) ⟨hx, hb, hml, hown, htg⟩ (c_X7_cheapestOf l D E G _ a C_35 n hn hT x1 (0 : Int32) x2 x3 (1 : Int32) (rg_w u_9.1 (by decide)) (rg_w u_19 (by decide)) (rg_w u_23 (by decide)) (oh_posU (rg_w u_9.1 (by decide)) (fun i hi => th_un e_36 (by omega)) (oh_posU (rg_w u_9.1 (by decide)) (fun i hi => hLF_48.1 _ (inR_out hi (by decide)) (by omega)) u_9.2.1))) (cwV 5 htg (oh_gV q_1347 q_1349 q_59 q_73 q_1350) rfl rfl rfl pdVX7_cheapestOf ⟨Nat.le_of_ble_eq_true rfl, Nat.le_of_ble_eq_true rfl⟩) hK hP hD hG hS hA (va_recv hK hP (ci := 7) (q0 := 0) rfl (oh_wg (Nat.lt_of_lt_of_le (by decide) hn) (sM_0 hT))) rfl hl.1 rfl (Nat.le_of_ble_eq_true rfl) dX7_most_74 ⟨Nat.le_of_ble_eq_true rfl, Nat.le_of_ble_eq_true rfl⟩ (fun r_38 C_39 H locs hq_40 hP hD hS => ?_)
            obtain ⟨hT, f_41, hq_40⟩ := hq_40
            have hF := fr_tr hF f_41 (by decide) (by decide)
            refine W.widen (k := 0) (n := 0) (Nat.le_refl _) (Nat.le_refl _) ?_
            have t_42 := hT
            refine lv_iconst (v := (-1)) hx hb dX7_most_77 (by decide) ?_
            refine lv_icmp_eq (tgt := 102) hx hb dX7_most_78 (by decide) (fun (c_43 : r_38 = (-1)) => ?_) (fun (c_43 : ¬ (r_38 = (-1))) => ?_)
            · refine lv_aload_n hx hb dX7_most_102 rfl (lv_at hl 4 rfl) ?_
              refine va_get (D := D) (ci := 7) (v := .ref (a 13)) (C := RX7) (T := TX7) (N := 29) hx hb htg ig_7 hown hK hP 0 (oh_wg (Nat.lt_of_lt_of_le (by decide) hn) (sM_0 hT)) rfl 17 (by decide) (htg _ q_990) (fun _ h9 => h9) rfl dX7_most_103 ?_
              refine lv_iconst (v := 0) hx hb dX7_most_106 (by decide) ?_
              refine th_iald hx hb hK hP 13 (Nat.lt_of_lt_of_le (by decide) hn) (Eq.trans (f_41.1 13 rfl (by decide)) (sM_13 t_37)) (rg_in (rg_c (v := 0) (lo := 0) (hi := 0) (by decide)) (by decide)) dX7_most_107 ?_
              refine lv_iconst (v := 1) hx hb dX7_most_108 (by decide) ?_
              refine lv_isub hx hb dX7_most_109 ?_
              refine lv_istore (lv' := [(7, .int ((ga (C_35 13) ((0 : Int32)).toNatClampNeg) - 1)), (6, .int z48_6), (5, .int z48_5), (4, .int (ga (C 13) ((0 : Int32)).toNatClampNeg)), (0, .ref (a 0)), (1, .int x1), (2, .int x2), (3, .int x3)]) hx hb dX7_most_110 hl (by decide) rfl (fun ls hl => ?_)
              refine lv_goto (tgt := 48) hx hb dX7_most_112 (by decide) ?_
              exact ih_48 _ (hd_48 ▸ (oh_midd (by rw [st_ga e_36]; exact pk_us) (oh_mid hz48_6 hz48_7 (Int32.not_lt.mp c_25))).2) C_39 ((ga (C_35 13) ((0 : Int32)).toNatClampNeg) - 1) z48_6 z48_5 _ _ ls rfl (oh_midd (p := z48_6) (by rw [st_ga e_36]; exact pk_us) (oh_mid hz48_6 hz48_7 (Int32.not_lt.mp c_25))).1 hz48_6 (fun j hj => (Eq.trans (congrArg (fun z => ga z j) (f_41.1 13 rfl (by decide))) (Eq.trans (show ga (C_35 13) j = ga (K48 13) j by rw [st_ga e_36]; exact pk_un hj) (hx_48 j hj)))) hT hF (fr_tr (fr_ste hLF_48 e_36 (by decide) (by decide)) f_41 (by decide) (by decide)) hP hD hS (lv_sub hl [0, 1, 2, 3, 4, 5, 6, 7] rfl)
            · refine lv_aload_n hx hb dX7_most_81 rfl (lv_at hl 4 rfl) ?_
              refine va_get (D := D) (ci := 7) (v := .ref (a 13)) (C := RX7) (T := TX7) (N := 29) hx hb htg ig_7 hown hK hP 0 (oh_wg (Nat.lt_of_lt_of_le (by decide) hn) (sM_0 hT)) rfl 17 (by decide) (htg _ q_990) (fun _ h9 => h9) rfl dX7_most_82 ?_
              refine lv_iconst (v := 0) hx hb dX7_most_85 (by decide) ?_
              refine th_iald hx hb hK hP 13 (Nat.lt_of_lt_of_le (by decide) hn) (Eq.trans (f_41.1 13 rfl (by decide)) (sM_13 t_37)) (rg_in (rg_c (v := 0) (lo := 0) (hi := 0) (by decide)) (by decide)) dX7_most_86 ?_
              refine lv_istore (lv' := [(5, .int (ga (C_35 13) ((0 : Int32)).toNatClampNeg)), (7, .int z48_7), (6, .int z48_6), (4, .int (ga (C 13) ((0 : Int32)).toNatClampNeg)), (0, .ref (a 0)), (1, .int x1), (2, .int x2), (3, .int x3)]) hx hb dX7_most_87 hl (by decide) rfl (fun ls hl => ?_)
              refine lv_aload_n hx hb dX7_most_89 rfl (lv_at hl 4 rfl) ?_
              refine va_get (D := D) (ci := 7) (v := .ref (a 13)) (C := RX7) (T := TX7) (N := 29) hx hb htg ig_7 hown hK hP 0 (oh_wg (Nat.lt_of_lt_of_le (by decide) hn) (sM_0 hT)) rfl 17 (by decide) (htg _ q_990) (fun _ h9 => h9) rfl dX7_most_90 ?_
              refine lv_iconst (v := 0) hx hb dX7_most_93 (by decide) ?_
              refine th_iald hx hb hK hP 13 (Nat.lt_of_lt_of_le (by decide) hn) (Eq.trans (f_41.1 13 rfl (by decide)) (sM_13 t_37)) (rg_in (rg_c (v := 0) (lo := 0) (hi := 0) (by decide)) (by decide)) dX7_most_94 ?_
              refine lv_iconst (v := 1) hx hb dX7_most_95 (by decide) ?_
              refine lv_iadd hx hb dX7_most_96 ?_
              refine lv_istore (lv' := [(6, .int ((ga (C_35 13) ((0 : Int32)).toNatClampNeg) + 1)), (5, .int (ga (C_35 13) ((0 : Int32)).toNatClampNeg)), (7, .int z48_7), (4, .int (ga (C 13) ((0 : Int32)).toNatClampNeg)), (0, .ref (a 0)), (1, .int x1), (2, .int x2), (3, .int x3)]) hx hb dX7_most_97 hl (by decide) rfl (fun ls hl => ?_)
              refine lv_goto (tgt := 48) hx hb dX7_most_99 (by decide) ?_
              exact ih_48 _ (hd_48 ▸ (oh_midu (by rw [st_ga e_36]; exact pk_us) (oh_mid hz48_6 hz48_7 (Int32.not_lt.mp c_25))).2) C_39 z48_7 ((ga (C_35 13) ((0 : Int32)).toNatClampNeg) + 1) (ga (C_35 13) ((0 : Int32)).toNatClampNeg) _ _ ls rfl hz48_7 (oh_midu (q := z48_7) (by rw [st_ga e_36]; exact pk_us) (oh_mid hz48_6 hz48_7 (Int32.not_lt.mp c_25))).1 (fun j hj => (Eq.trans (congrArg (fun z => ga z j) (f_41.1 13 rfl (by decide))) (Eq.trans (show ga (C_35 13) j = ga (K48 13) j by rw [st_ga e_36]; exact pk_un hj) (hx_48 j hj)))) hT hF (fr_tr (fr_ste hLF_48 e_36 (by decide) (by decide)) f_41 (by decide) (by decide)) hP hD hS (lv_sub hl [2, 0, 1, 3, 4, 5, 6, 7] rfl)
        exact L_48 _ C 900 0 (-1) _ _ ls rfl (rg_w (rg_c (v := 900) (lo := 900) (hi := 900) (by decide)) (by decide)) (rg_w (rg_c (v := 0) (lo := 0) (hi := 0) (by decide)) (by decide)) (fun j hj => rfl) hT hF fr_rf hP hD hS (lv_sub hl [0, 1, 2, 3, 4, 5, 6, 7] rfl)
      · have u_44 := hq_21.2.2 c_22
        refine lv_aload_n hx hb dX7_most_22 rfl (lv_at hl 0 rfl) ?_
        refine lv_bipush (v := (-2)) hx hb dX7_most_23 (by decide) ?_
        refine tm_V (As := [.int (-2)]) (rest := []) ⟨hx, hb, hml, hown, htg⟩ (c_X7_refuse l D E G _ a C n hn hT ((-2) : Int32) (rg_w (rg_c (v := (-2)) (lo := (-2)) (hi := (-2)) (by decide)) (by decide))) (cwV 1 htg (oh_gV q_1071 q_1073 q_29 q_73 q_1074) rfl rfl rfl pdVX7_refuse ⟨Nat.le_of_ble_eq_true rfl, Nat.le_of_ble_eq_true rfl⟩) hK hP hD hG hS hA (va_recv hK hP (ci := 7) (q0 := 0) rfl (oh_wg (Nat.lt_of_lt_of_le (by decide) hn) (sM_0 hT))) rfl hl.1 rfl (Nat.le_of_ble_eq_true rfl) dX7_most_25 ⟨Nat.le_of_ble_eq_true rfl, Nat.le_of_ble_eq_true rfl⟩ (fun r_45 C_46 H locs hq_47 hP hD hS => ?_)
        obtain ⟨hT, f_48, hq_47⟩ := hq_47
        have hF := fr_tr hF f_48 (by decide) (by decide)
        refine W.widen (k := 0) (n := 0) (Nat.le_refl _) (Nat.le_refl _) ?_
        have t_49 := hT
        rw [hQ]
        exact W.iret (v := r_45) hx hb hr (fun t ht hW => ⟨⟨r_45, C_46, rfl, ⟨hT, hF, ⟨⟨hR.1.fr hF (by decide), hR.2.fr hF (by decide)⟩, (congrArg ga (f_48.1 13 rfl (by decide)))⟩⟩, ⟨by rw [ht]; exact hP, hD⟩⟩, hS.F ht⟩) hS.2.2 dX7_most_28

set_option maxHeartbeats 4000000 in
set_option maxRecDepth 100000 in
theorem e_X7_frost (l : Launch) (D : va_G) (E : Nat → ClassId) (G : Nat → Nat) (sz : Nat) (a : Nat → Nat) (C : Nat → va_E) (n : Nat) (hn : 74 ≤ n) (hT : TyM a E C) (x1 : Int32) (x2 : Int32) (x3 : Int32) (x4 : Int32) (x5 : Int32) (x6 : Int32) (x7 : Int32) (hR : RelM C) : Met l yX7_frost (oh_w yX7_frost cX7_frost 19 (some .long)) ({ frames := 7, cells := 0, slots := 0, locals := 177 }) (oh_Pm D E G [.ref (a 0), .int x1, .int x2, .int x3, .int x4, .int x5, .int x6, .int x7] (oh_W n a C) sz) (va_Ql (fun r (u : Nat → va_E) => TyM a E u ∧ fr [(8, 9), (13, 14), (15, 16)] [] C u ∧ (RelM u) ∧ (ga (u 13) = ga (C 13))) (oh_B D (va_A (oh_W n a C) sz) (fun u => oh_W n a u)) (va_A (oh_W n a C) sz)) 0 0 (va_A (oh_W n a C) sz) := by
  refine Met.ofW (cc := cX7_frost) (maxL := 19) (ret := (some .long)) (by decide) rfl ?_
  intro p e s m args below meth c s₁ B hml hv
  obtain ⟨rfl, hsz, hP, hK, hD0, hG⟩ := hv
  have hx := B.exec
  have hb := B.bytes
  have hr := B.returns
  have hts := atoms_spec (ws := (oh_w yX7_frost cX7_frost 19 (some .long))) B.pre
  have htg : ∀ w ∈ oh_t, w.before _ s = true := fun w h => hts w (List.mem_cons_of_mem _ h)
  have hown : s.vm.findClass RX7 = some m.cls := findClass_of_methodNamed B.named
  have hlocks := B.notSynchronized
  have hT0 := hT
  subst hsz
  have hD := hD0.self (sz := s.heap.size)
  generalize hAe : va_A (oh_W n a C) s.heap.size = A at hD hG ⊢
  have hA : ∀ q : Nat, s.heap.size ≤ q → A q := fun q h => by rw [← hAe]; exact Or.inr h
  have hS : va_S A s.heap s.heap [] := va_S.rf
  have hF : fr [(8, 9), (13, 14), (15, 16)] [] C C := fr_rf
  have hl := lv_entry ([.ref (a 0), .int x1, .int x2, .int x3, .int x4, .int x5, .int x6, .int x7]) (n := 19) (Nat.le_of_ble_eq_true rfl)
  rw [lg_entry_eq]
  generalize (lg_sl ([.ref (a 0), .int x1, .int x2, .int x3, .int x4, .int x5, .int x6, .int x7]) ++ List.replicate (19 - (lg_sl ([.ref (a 0), .int x1, .int x2, .int x3, .int x4, .int x5, .int x6, .int x7])).length) Slot.unset).toArray = ls at hl ⊢
  have hl : lv_has ls 19 [(0, .ref (a 0)), (1, .int x1), (2, .int x2), (3, .int x3), (4, .int x4), (5, .int x5), (6, .int x6), (7, .int x7)] := hl
  refine oh_genQ (fun Q hQ => ?_)
  refine lv_aload_n hx hb dX7_frost_0 rfl (lv_at hl 0 rfl) ?_
  refine lv_iload_n hx hb dX7_frost_1 rfl (lv_at hl 1 rfl) ?_
  refine lv_iload_n hx hb dX7_frost_2 rfl (lv_at hl 2 rfl) ?_
  refine tq_V (As := [.int x1, .int x2]) (rest := []) (ws := (oh_W n a C)) ⟨hx, hb, hml, hown, htg⟩ (c_X7_isPack l D E G a C n hn hT x1 x2 hR.1) (cwV 2 htg (oh_gV q_1290 q_1292 q_50 q_73 q_1293) rfl rfl rfl pdVX7_isPack ⟨Nat.le_of_ble_eq_true rfl, Nat.le_of_ble_eq_true rfl⟩) hK hP hG hS (va_recv hK hP (ci := 7) (q0 := 0) rfl (oh_wg (Nat.lt_of_lt_of_le (by decide) hn) (sM_0 hT))) rfl hl.1 rfl (Nat.le_of_ble_eq_true rfl) dX7_frost_3 ⟨Nat.le_of_ble_eq_true rfl, Nat.le_of_ble_eq_true rfl⟩ (fun r_1 hq_2 => ?_)
  refine lv_if_eq (tgt := 41) hx hb dX7_frost_6 (by decide) (fun (c_3 : r_1 = 0) => ?_) (fun (c_3 : ¬ (r_1 = 0)) => ?_)
  · refine lv_iconst (v := 0) hx hb dX7_frost_41 (by decide) ?_
    refine lv_istore (lv' := [(8, .int 0), (0, .ref (a 0)), (1, .int x1), (2, .int x2), (3, .int x3), (4, .int x4), (5, .int x5), (6, .int x6), (7, .int x7)]) hx hb dX7_frost_42 hl (by decide) rfl (fun ls hl => ?_)
    refine lv_iload hx hb dX7_frost_44 (lv_at hl 0 rfl) ?_
    refine lv_if_eq (tgt := 75) hx hb dX7_frost_46 (by decide) (fun _ => ?_) (fun c => absurd (show (0 : Int32) = 0 from by decide) c)
    refine lv_aload_n hx hb dX7_frost_75 rfl (lv_at hl 1 rfl) ?_
    refine lv_bipush (v := (-2)) hx hb dX7_frost_76 (by decide) ?_
    refine tm_V (As := [.int (-2)]) (rest := []) ⟨hx, hb, hml, hown, htg⟩ (c_X7_refuse l D E G _ a C n hn hT ((-2) : Int32) (rg_w (rg_c (v := (-2)) (lo := (-2)) (hi := (-2)) (by decide)) (by decide))) (cwV 1 htg (oh_gV q_1071 q_1073 q_29 q_73 q_1074) rfl rfl rfl pdVX7_refuse ⟨Nat.le_of_ble_eq_true rfl, Nat.le_of_ble_eq_true rfl⟩) hK hP hD hG hS hA (va_recv hK hP (ci := 7) (q0 := 0) rfl (oh_wg (Nat.lt_of_lt_of_le (by decide) hn) (sM_0 hT))) rfl hl.1 rfl (Nat.le_of_ble_eq_true rfl) dX7_frost_78 ⟨Nat.le_of_ble_eq_true rfl, Nat.le_of_ble_eq_true rfl⟩ (fun r_4 C_5 H locs hq_6 hP hD hS => ?_)
    obtain ⟨hT, f_7, hq_6⟩ := hq_6
    have hF := fr_tr hF f_7 (by decide) (by decide)
    refine W.widen (k := 0) (n := 0) (Nat.le_refl _) (Nat.le_refl _) ?_
    have t_8 := hT
    refine lv_i2l (v := Int32.toInt64 r_4) hx hb dX7_frost_81 (by rfl) ?_
    rw [hQ]
    exact W.lret (v := Int32.toInt64 r_4) hx hb hr (fun t ht hW => ⟨⟨Int32.toInt64 r_4, C_5, rfl, ⟨hT, hF, ⟨⟨hR.1.fr hF (by decide), hR.2.fr hF (by decide)⟩, (congrArg ga (f_7.1 13 rfl (by decide)))⟩⟩, ⟨by rw [ht]; exact hP, hD⟩⟩, hS.F ht⟩) hS.2.2 dX7_frost_82
  · have u_9 := hq_2.2 c_3
    refine lv_iload_n hx hb dX7_frost_9 rfl (lv_at hl 3 rfl) ?_
    refine tq_S (As := [.int x3]) (rest := []) (ws := []) ⟨hx, hb, hml, hown, htg⟩ (e_X7_isPlace l D E G x3) (va_cwS 1 htg (oh_gS q_1130 q_1131 q_73 q_1132) rfl rfl rfl pdX7_isPlace ⟨Nat.le_of_ble_eq_true rfl, Nat.le_of_ble_eq_true rfl⟩) hK va_nil hG hS rfl hl.1 rfl (Nat.le_of_ble_eq_true rfl) dX7_frost_10 ⟨Nat.le_of_ble_eq_true rfl, Nat.le_of_ble_eq_true rfl⟩ (fun r_10 hq_11 => ?_)
    refine lv_if_eq (tgt := 41) hx hb dX7_frost_13 (by decide) (fun (c_12 : r_10 = 0) => ?_) (fun (c_12 : ¬ (r_10 = 0)) => ?_)
    · have u_13 := hq_11.2.2 c_12
      refine lv_iconst (v := 0) hx hb dX7_frost_41 (by decide) ?_
      refine lv_istore (lv' := [(8, .int 0), (0, .ref (a 0)), (1, .int x1), (2, .int x2), (3, .int x3), (4, .int x4), (5, .int x5), (6, .int x6), (7, .int x7)]) hx hb dX7_frost_42 hl (by decide) rfl (fun ls hl => ?_)
      refine lv_iload hx hb dX7_frost_44 (lv_at hl 0 rfl) ?_
      refine lv_if_eq (tgt := 75) hx hb dX7_frost_46 (by decide) (fun _ => ?_) (fun c => absurd (show (0 : Int32) = 0 from by decide) c)
      refine lv_aload_n hx hb dX7_frost_75 rfl (lv_at hl 1 rfl) ?_
      refine lv_bipush (v := (-2)) hx hb dX7_frost_76 (by decide) ?_
      refine tm_V (As := [.int (-2)]) (rest := []) ⟨hx, hb, hml, hown, htg⟩ (c_X7_refuse l D E G _ a C n hn hT ((-2) : Int32) (rg_w (rg_c (v := (-2)) (lo := (-2)) (hi := (-2)) (by decide)) (by decide))) (cwV 1 htg (oh_gV q_1071 q_1073 q_29 q_73 q_1074) rfl rfl rfl pdVX7_refuse ⟨Nat.le_of_ble_eq_true rfl, Nat.le_of_ble_eq_true rfl⟩) hK hP hD hG hS hA (va_recv hK hP (ci := 7) (q0 := 0) rfl (oh_wg (Nat.lt_of_lt_of_le (by decide) hn) (sM_0 hT))) rfl hl.1 rfl (Nat.le_of_ble_eq_true rfl) dX7_frost_78 ⟨Nat.le_of_ble_eq_true rfl, Nat.le_of_ble_eq_true rfl⟩ (fun r_14 C_15 H locs hq_16 hP hD hS => ?_)
      obtain ⟨hT, f_17, hq_16⟩ := hq_16
      have hF := fr_tr hF f_17 (by decide) (by decide)
      refine W.widen (k := 0) (n := 0) (Nat.le_refl _) (Nat.le_refl _) ?_
      have t_18 := hT
      refine lv_i2l (v := Int32.toInt64 r_14) hx hb dX7_frost_81 (by rfl) ?_
      rw [hQ]
      exact W.lret (v := Int32.toInt64 r_14) hx hb hr (fun t ht hW => ⟨⟨Int32.toInt64 r_14, C_15, rfl, ⟨hT, hF, ⟨⟨hR.1.fr hF (by decide), hR.2.fr hF (by decide)⟩, (congrArg ga (f_17.1 13 rfl (by decide)))⟩⟩, ⟨by rw [ht]; exact hP, hD⟩⟩, hS.F ht⟩) hS.2.2 dX7_frost_82
    · have u_19 := hq_11.2.1 c_12
      refine lv_iload hx hb dX7_frost_16 (lv_at hl 4 rfl) ?_
      refine tq_S (As := [.int x4]) (rest := []) (ws := []) ⟨hx, hb, hml, hown, htg⟩ (e_X7_isPlace l D E G x4) (va_cwS 1 htg (oh_gS q_1130 q_1131 q_73 q_1132) rfl rfl rfl pdX7_isPlace ⟨Nat.le_of_ble_eq_true rfl, Nat.le_of_ble_eq_true rfl⟩) hK va_nil hG hS rfl hl.1 rfl (Nat.le_of_ble_eq_true rfl) dX7_frost_18 ⟨Nat.le_of_ble_eq_true rfl, Nat.le_of_ble_eq_true rfl⟩ (fun r_20 hq_21 => ?_)
      refine lv_if_eq (tgt := 41) hx hb dX7_frost_21 (by decide) (fun (c_22 : r_20 = 0) => ?_) (fun (c_22 : ¬ (r_20 = 0)) => ?_)
      · have u_23 := hq_21.2.2 c_22
        refine lv_iconst (v := 0) hx hb dX7_frost_41 (by decide) ?_
        refine lv_istore (lv' := [(8, .int 0), (0, .ref (a 0)), (1, .int x1), (2, .int x2), (3, .int x3), (4, .int x4), (5, .int x5), (6, .int x6), (7, .int x7)]) hx hb dX7_frost_42 hl (by decide) rfl (fun ls hl => ?_)
        refine lv_iload hx hb dX7_frost_44 (lv_at hl 0 rfl) ?_
        refine lv_if_eq (tgt := 75) hx hb dX7_frost_46 (by decide) (fun _ => ?_) (fun c => absurd (show (0 : Int32) = 0 from by decide) c)
        refine lv_aload_n hx hb dX7_frost_75 rfl (lv_at hl 1 rfl) ?_
        refine lv_bipush (v := (-2)) hx hb dX7_frost_76 (by decide) ?_
        refine tm_V (As := [.int (-2)]) (rest := []) ⟨hx, hb, hml, hown, htg⟩ (c_X7_refuse l D E G _ a C n hn hT ((-2) : Int32) (rg_w (rg_c (v := (-2)) (lo := (-2)) (hi := (-2)) (by decide)) (by decide))) (cwV 1 htg (oh_gV q_1071 q_1073 q_29 q_73 q_1074) rfl rfl rfl pdVX7_refuse ⟨Nat.le_of_ble_eq_true rfl, Nat.le_of_ble_eq_true rfl⟩) hK hP hD hG hS hA (va_recv hK hP (ci := 7) (q0 := 0) rfl (oh_wg (Nat.lt_of_lt_of_le (by decide) hn) (sM_0 hT))) rfl hl.1 rfl (Nat.le_of_ble_eq_true rfl) dX7_frost_78 ⟨Nat.le_of_ble_eq_true rfl, Nat.le_of_ble_eq_true rfl⟩ (fun r_24 C_25 H locs hq_26 hP hD hS => ?_)
        obtain ⟨hT, f_27, hq_26⟩ := hq_26
        have hF := fr_tr hF f_27 (by decide) (by decide)
        refine W.widen (k := 0) (n := 0) (Nat.le_refl _) (Nat.le_refl _) ?_
        have t_28 := hT
        refine lv_i2l (v := Int32.toInt64 r_24) hx hb dX7_frost_81 (by rfl) ?_
        rw [hQ]
        exact W.lret (v := Int32.toInt64 r_24) hx hb hr (fun t ht hW => ⟨⟨Int32.toInt64 r_24, C_25, rfl, ⟨hT, hF, ⟨⟨hR.1.fr hF (by decide), hR.2.fr hF (by decide)⟩, (congrArg ga (f_27.1 13 rfl (by decide)))⟩⟩, ⟨by rw [ht]; exact hP, hD⟩⟩, hS.F ht⟩) hS.2.2 dX7_frost_82
      · have u_29 := hq_21.2.1 c_22
        refine lv_iload hx hb dX7_frost_24 (lv_at hl 5 rfl) ?_
        refine lv_i2l (v := Int32.toInt64 x5) hx hb dX7_frost_26 (by rfl) ?_
        refine lv_lconst (v := 0) hx hb dX7_frost_27 (by decide) ?_
        refine lv_ldc2 (v := 6) hx hb hown (htg _ q_1265) dX7_frost_28 ?_
        refine tq_S (As := [.long (Int32.toInt64 x5), .long 0, .long 6]) (rest := []) (ws := []) ⟨hx, hb, hml, hown, htg⟩ (c_X7_in l D E G (Int32.toInt64 x5) (0 : Int64) (6 : Int64)) (va_cwS 3 htg (oh_gS q_1066 q_1067 q_73 q_1068) rfl rfl rfl pdX7_in ⟨Nat.le_of_ble_eq_true rfl, Nat.le_of_ble_eq_true rfl⟩) hK va_nil hG hS rfl hl.1 rfl (Nat.le_of_ble_eq_true rfl) dX7_frost_31 ⟨Nat.le_of_ble_eq_true rfl, Nat.le_of_ble_eq_true rfl⟩ (fun r_30 hq_31 => ?_)
        refine lv_if_eq (tgt := 41) hx hb dX7_frost_34 (by decide) (fun (c_32 : r_30 = 0) => ?_) (fun (c_32 : ¬ (r_30 = 0)) => ?_)
        · have u_33 := hq_31.2.2 c_32
          refine lv_iconst (v := 0) hx hb dX7_frost_41 (by decide) ?_
          refine lv_istore (lv' := [(8, .int 0), (0, .ref (a 0)), (1, .int x1), (2, .int x2), (3, .int x3), (4, .int x4), (5, .int x5), (6, .int x6), (7, .int x7)]) hx hb dX7_frost_42 hl (by decide) rfl (fun ls hl => ?_)
          refine lv_iload hx hb dX7_frost_44 (lv_at hl 0 rfl) ?_
          refine lv_if_eq (tgt := 75) hx hb dX7_frost_46 (by decide) (fun _ => ?_) (fun c => absurd (show (0 : Int32) = 0 from by decide) c)
          refine lv_aload_n hx hb dX7_frost_75 rfl (lv_at hl 1 rfl) ?_
          refine lv_bipush (v := (-2)) hx hb dX7_frost_76 (by decide) ?_
          refine tm_V (As := [.int (-2)]) (rest := []) ⟨hx, hb, hml, hown, htg⟩ (c_X7_refuse l D E G _ a C n hn hT ((-2) : Int32) (rg_w (rg_c (v := (-2)) (lo := (-2)) (hi := (-2)) (by decide)) (by decide))) (cwV 1 htg (oh_gV q_1071 q_1073 q_29 q_73 q_1074) rfl rfl rfl pdVX7_refuse ⟨Nat.le_of_ble_eq_true rfl, Nat.le_of_ble_eq_true rfl⟩) hK hP hD hG hS hA (va_recv hK hP (ci := 7) (q0 := 0) rfl (oh_wg (Nat.lt_of_lt_of_le (by decide) hn) (sM_0 hT))) rfl hl.1 rfl (Nat.le_of_ble_eq_true rfl) dX7_frost_78 ⟨Nat.le_of_ble_eq_true rfl, Nat.le_of_ble_eq_true rfl⟩ (fun r_34 C_35 H locs hq_36 hP hD hS => ?_)
          obtain ⟨hT, f_37, hq_36⟩ := hq_36
          have hF := fr_tr hF f_37 (by decide) (by decide)
          refine W.widen (k := 0) (n := 0) (Nat.le_refl _) (Nat.le_refl _) ?_
          have t_38 := hT
          refine lv_i2l (v := Int32.toInt64 r_34) hx hb dX7_frost_81 (by rfl) ?_
          rw [hQ]
          exact W.lret (v := Int32.toInt64 r_34) hx hb hr (fun t ht hW => ⟨⟨Int32.toInt64 r_34, C_35, rfl, ⟨hT, hF, ⟨⟨hR.1.fr hF (by decide), hR.2.fr hF (by decide)⟩, (congrArg ga (f_37.1 13 rfl (by decide)))⟩⟩, ⟨by rw [ht]; exact hP, hD⟩⟩, hS.F ht⟩) hS.2.2 dX7_frost_82
        · have u_39 := hq_31.2.1 c_32
          refine lv_iconst (v := 1) hx hb dX7_frost_37 (by decide) ?_
          refine lv_goto (tgt := 42) hx hb dX7_frost_38 (by decide) ?_
          refine lv_istore (lv' := [(8, .int 1), (0, .ref (a 0)), (1, .int x1), (2, .int x2), (3, .int x3), (4, .int x4), (5, .int x5), (6, .int x6), (7, .int x7)]) hx hb dX7_frost_42 hl (by decide) rfl (fun ls hl => ?_)
          refine lv_iload hx hb dX7_frost_44 (lv_at hl 0 rfl) ?_
          refine lv_if_eq (tgt := 75) hx hb dX7_frost_46 (by decide) (fun c => absurd c (show ¬ ((1 : Int32) = 0) from by decide)) (fun _ => ?_)
          refine lv_iload hx hb dX7_frost_49 (lv_at hl 7 rfl) ?_
          refine lv_i2l (v := Int32.toInt64 x6) hx hb dX7_frost_51 (by rfl) ?_
          refine lv_lconst (v := 0) hx hb dX7_frost_52 (by decide) ?_
          refine lv_ldc2 (v := 10) hx hb hown (htg _ q_1207) dX7_frost_53 ?_
          refine tq_S (As := [.long (Int32.toInt64 x6), .long 0, .long 10]) (rest := []) (ws := []) ⟨hx, hb, hml, hown, htg⟩ (c_X7_in l D E G (Int32.toInt64 x6) (0 : Int64) (10 : Int64)) (va_cwS 3 htg (oh_gS q_1066 q_1067 q_73 q_1068) rfl rfl rfl pdX7_in ⟨Nat.le_of_ble_eq_true rfl, Nat.le_of_ble_eq_true rfl⟩) hK va_nil hG hS rfl hl.1 rfl (Nat.le_of_ble_eq_true rfl) dX7_frost_56 ⟨Nat.le_of_ble_eq_true rfl, Nat.le_of_ble_eq_true rfl⟩ (fun r_40 hq_41 => ?_)
          refine lv_if_eq (tgt := 75) hx hb dX7_frost_59 (by decide) (fun (c_42 : r_40 = 0) => ?_) (fun (c_42 : ¬ (r_40 = 0)) => ?_)
          · have u_43 := hq_41.2.2 c_42
            refine lv_aload_n hx hb dX7_frost_75 rfl (lv_at hl 1 rfl) ?_
            refine lv_bipush (v := (-2)) hx hb dX7_frost_76 (by decide) ?_
            refine tm_V (As := [.int (-2)]) (rest := []) ⟨hx, hb, hml, hown, htg⟩ (c_X7_refuse l D E G _ a C n hn hT ((-2) : Int32) (rg_w (rg_c (v := (-2)) (lo := (-2)) (hi := (-2)) (by decide)) (by decide))) (cwV 1 htg (oh_gV q_1071 q_1073 q_29 q_73 q_1074) rfl rfl rfl pdVX7_refuse ⟨Nat.le_of_ble_eq_true rfl, Nat.le_of_ble_eq_true rfl⟩) hK hP hD hG hS hA (va_recv hK hP (ci := 7) (q0 := 0) rfl (oh_wg (Nat.lt_of_lt_of_le (by decide) hn) (sM_0 hT))) rfl hl.1 rfl (Nat.le_of_ble_eq_true rfl) dX7_frost_78 ⟨Nat.le_of_ble_eq_true rfl, Nat.le_of_ble_eq_true rfl⟩ (fun r_44 C_45 H locs hq_46 hP hD hS => ?_)
            obtain ⟨hT, f_47, hq_46⟩ := hq_46
            have hF := fr_tr hF f_47 (by decide) (by decide)
            refine W.widen (k := 0) (n := 0) (Nat.le_refl _) (Nat.le_refl _) ?_
            have t_48 := hT
            refine lv_i2l (v := Int32.toInt64 r_44) hx hb dX7_frost_81 (by rfl) ?_
            rw [hQ]
            exact W.lret (v := Int32.toInt64 r_44) hx hb hr (fun t ht hW => ⟨⟨Int32.toInt64 r_44, C_45, rfl, ⟨hT, hF, ⟨⟨hR.1.fr hF (by decide), hR.2.fr hF (by decide)⟩, (congrArg ga (f_47.1 13 rfl (by decide)))⟩⟩, ⟨by rw [ht]; exact hP, hD⟩⟩, hS.F ht⟩) hS.2.2 dX7_frost_82
          · have u_49 := hq_41.2.1 c_42
            refine lv_iload hx hb dX7_frost_62 (lv_at hl 8 rfl) ?_
            refine lv_i2l (v := Int32.toInt64 x7) hx hb dX7_frost_64 (by rfl) ?_
            refine lv_lconst (v := 0) hx hb dX7_frost_65 (by decide) ?_
            refine lv_ldc2 (v := 999) hx hb hown (htg _ q_1149) dX7_frost_66 ?_
            refine tq_S (As := [.long (Int32.toInt64 x7), .long 0, .long 999]) (rest := []) (ws := []) ⟨hx, hb, hml, hown, htg⟩ (c_X7_in l D E G (Int32.toInt64 x7) (0 : Int64) (999 : Int64)) (va_cwS 3 htg (oh_gS q_1066 q_1067 q_73 q_1068) rfl rfl rfl pdX7_in ⟨Nat.le_of_ble_eq_true rfl, Nat.le_of_ble_eq_true rfl⟩) hK va_nil hG hS rfl hl.1 rfl (Nat.le_of_ble_eq_true rfl) dX7_frost_69 ⟨Nat.le_of_ble_eq_true rfl, Nat.le_of_ble_eq_true rfl⟩ (fun r_50 hq_51 => ?_)
            refine lv_if_ne (tgt := 83) hx hb dX7_frost_72 (by decide) (fun (c_52 : ¬ (r_50 = 0)) => ?_) (fun (c_52 : r_50 = 0) => ?_)
            · have u_53 := hq_51.2.1 c_52
              refine lv_aload_n hx hb dX7_frost_83 rfl (lv_at hl 1 rfl) ?_
              refine va_get (D := D) (ci := 7) (v := .ref (a 13)) (C := RX7) (T := TX7) (N := 29) hx hb htg ig_7 hown hK hP 0 (oh_wg (Nat.lt_of_lt_of_le (by decide) hn) (sM_0 hT)) rfl 17 (by decide) (htg _ q_990) (fun _ h9 => h9) rfl dX7_frost_84 ?_
              refine lv_iconst (v := 2) hx hb dX7_frost_87 (by decide) ?_
              refine th_iald hx hb hK hP 13 (Nat.lt_of_lt_of_le (by decide) hn) (sM_13 hT) (rg_in (rg_c (v := 2) (lo := 2) (hi := 2) (by decide)) (by decide)) dX7_frost_88 ?_
              refine lv_istore (lv' := [(9, .int (ga (C 13) ((2 : Int32)).toNatClampNeg)), (8, .int 1), (0, .ref (a 0)), (1, .int x1), (2, .int x2), (3, .int x3), (4, .int x4), (5, .int x5), (6, .int x6), (7, .int x7)]) hx hb dX7_frost_89 hl (by decide) rfl (fun ls hl => ?_)
              refine lv_aload_n hx hb dX7_frost_91 rfl (lv_at hl 2 rfl) ?_
              refine va_get (D := D) (ci := 7) (v := .ref (a 13)) (C := RX7) (T := TX7) (N := 29) hx hb htg ig_7 hown hK hP 0 (oh_wg (Nat.lt_of_lt_of_le (by decide) hn) (sM_0 hT)) rfl 17 (by decide) (htg _ q_990) (fun _ h9 => h9) rfl dX7_frost_92 ?_
              refine lv_iconst (v := 2) hx hb dX7_frost_95 (by decide) ?_
              refine lv_iconst (v := 1) hx hb dX7_frost_96 (by decide) ?_
              refine th_iast (T := TyM a E) (Rl := fr [(8, 9), (13, 14), (15, 16)] [] C) hx hb hK hP hD hS 13 (Nat.lt_of_lt_of_le (by decide) hn) (sM_13 hT) (rg_in (rg_c (v := 2) (lo := 2) (hi := 2) (by decide)) (by decide)) (hT.up 13 (by decide) (tA_upd (tM_13 hT) tA_any)) (fr_st hF (by decide) (by decide)) dX7_frost_97 (fun C_54 H locs e_55 hT hF hP hD hS => ?_)
              have t_56 := hT
              refine lv_aload_n hx hb dX7_frost_98 rfl (lv_at hl 2 rfl) ?_
              refine lv_iload_n hx hb dX7_frost_99 rfl (lv_at hl 3 rfl) ?_
              refine lv_iload_n hx hb dX7_frost_100 rfl (lv_at hl 4 rfl) ?_
              refine lv_iload_n hx hb dX7_frost_101 rfl (lv_at hl 5 rfl) ?_
              refine lv_iload hx hb dX7_frost_102 (lv_at hl 6 rfl) ?_
              refine lv_iconst (v := 1) hx hb dX7_frost_104 (by decide) ?_
              refine tm_V (As := [.int x1, .int x2, .int x3, .int x4, .int 1]) (rest := []) ⟨hx, hb, hml, hown, htg⟩ (c_X7_cheapestOf l D E G _ a C_54 n hn hT x1 x2 x3 x4 (1 : Int32) (rg_w u_9.1 (by decide)) (rg_w u_19 (by decide)) (rg_w u_29 (by decide)) (oh_posU (rg_w u_9.1 (by decide)) (fun i hi => th_un e_55 (by omega)) u_9.2.1)) (cwV 5 htg (oh_gV q_1347 q_1349 q_59 q_73 q_1350) rfl rfl rfl pdVX7_cheapestOf ⟨Nat.le_of_ble_eq_true rfl, Nat.le_of_ble_eq_true rfl⟩) hK hP hD hG hS hA (va_recv hK hP (ci := 7) (q0 := 0) rfl (oh_wg (Nat.lt_of_lt_of_le (by decide) hn) (sM_0 hT))) rfl hl.1 rfl (Nat.le_of_ble_eq_true rfl) dX7_frost_105 ⟨Nat.le_of_ble_eq_true rfl, Nat.le_of_ble_eq_true rfl⟩ (fun r_57 C_58 H locs hq_59 hP hD hS => ?_)
              obtain ⟨hT, f_60, hq_59⟩ := hq_59
              have hF := fr_tr hF f_60 (by decide) (by decide)
              refine W.widen (k := 0) (n := 0) (Nat.le_refl _) (Nat.le_refl _) ?_
              have t_61 := hT
              refine lv_istore (lv' := [(10, .int r_57), (9, .int (ga (C 13) ((2 : Int32)).toNatClampNeg)), (8, .int 1), (0, .ref (a 0)), (1, .int x1), (2, .int x2), (3, .int x3), (4, .int x4), (5, .int x5), (6, .int x6), (7, .int x7)]) hx hb dX7_frost_108 hl (by decide) rfl (fun ls hl => ?_)
              refine lv_aload_n hx hb dX7_frost_110 rfl (lv_at hl 3 rfl) ?_
              refine va_get (D := D) (ci := 7) (v := .ref (a 13)) (C := RX7) (T := TX7) (N := 29) hx hb htg ig_7 hown hK hP 0 (oh_wg (Nat.lt_of_lt_of_le (by decide) hn) (sM_0 hT)) rfl 17 (by decide) (htg _ q_990) (fun _ h9 => h9) rfl dX7_frost_111 ?_
              refine lv_iconst (v := 2) hx hb dX7_frost_114 (by decide) ?_
              refine lv_iconst (v := 0) hx hb dX7_frost_115 (by decide) ?_
              refine th_iast (T := TyM a E) (Rl := fr [(8, 9), (13, 14), (15, 16)] [] C) hx hb hK hP hD hS 13 (Nat.lt_of_lt_of_le (by decide) hn) (sM_13 hT) (rg_in (rg_c (v := 2) (lo := 2) (hi := 2) (by decide)) (by decide)) (hT.up 13 (by decide) (tA_upd (tM_13 hT) tA_any)) (fr_st hF (by decide) (by decide)) dX7_frost_116 (fun C_62 H locs e_63 hT hF hP hD hS => ?_)
              have t_64 := hT
              refine lv_aload_n hx hb dX7_frost_117 rfl (lv_at hl 3 rfl) ?_
              refine lv_iload_n hx hb dX7_frost_118 rfl (lv_at hl 4 rfl) ?_
              refine lv_iload_n hx hb dX7_frost_119 rfl (lv_at hl 5 rfl) ?_
              refine lv_iload_n hx hb dX7_frost_120 rfl (lv_at hl 6 rfl) ?_
              refine lv_iload hx hb dX7_frost_121 (lv_at hl 7 rfl) ?_
              refine lv_iconst (v := 1) hx hb dX7_frost_123 (by decide) ?_
              refine tm_V (As := [.int x1, .int x2, .int x3, .int x4, .int 1]) (rest := []) ⟨hx, hb, hml, hown, htg⟩ (c_X7_cheapestOf l D E G _ a C_62 n hn hT x1 x2 x3 x4 (1 : Int32) (rg_w u_9.1 (by decide)) (rg_w u_19 (by decide)) (rg_w u_29 (by decide)) (oh_posU (rg_w u_9.1 (by decide)) (fun i hi => th_un e_63 (by omega)) (oh_posU (rg_w u_9.1 (by decide)) (fun i hi => f_60.1 _ (inR_out hi (by decide)) (by omega)) (oh_posU (rg_w u_9.1 (by decide)) (fun i hi => th_un e_55 (by omega)) u_9.2.1)))) (cwV 5 htg (oh_gV q_1347 q_1349 q_59 q_73 q_1350) rfl rfl rfl pdVX7_cheapestOf ⟨Nat.le_of_ble_eq_true rfl, Nat.le_of_ble_eq_true rfl⟩) hK hP hD hG hS hA (va_recv hK hP (ci := 7) (q0 := 0) rfl (oh_wg (Nat.lt_of_lt_of_le (by decide) hn) (sM_0 hT))) rfl hl.1 rfl (Nat.le_of_ble_eq_true rfl) dX7_frost_124 ⟨Nat.le_of_ble_eq_true rfl, Nat.le_of_ble_eq_true rfl⟩ (fun r_65 C_66 H locs hq_67 hP hD hS => ?_)
              obtain ⟨hT, f_68, hq_67⟩ := hq_67
              have hF := fr_tr hF f_68 (by decide) (by decide)
              refine W.widen (k := 0) (n := 0) (Nat.le_refl _) (Nat.le_refl _) ?_
              have t_69 := hT
              refine lv_istore (lv' := [(11, .int r_65), (10, .int r_57), (9, .int (ga (C 13) ((2 : Int32)).toNatClampNeg)), (8, .int 1), (0, .ref (a 0)), (1, .int x1), (2, .int x2), (3, .int x3), (4, .int x4), (5, .int x5), (6, .int x6), (7, .int x7)]) hx hb dX7_frost_127 hl (by decide) rfl (fun ls hl => ?_)
              refine lv_aload_n hx hb dX7_frost_129 rfl (lv_at hl 4 rfl) ?_
              refine va_get (D := D) (ci := 7) (v := .ref (a 13)) (C := RX7) (T := TX7) (N := 29) hx hb htg ig_7 hown hK hP 0 (oh_wg (Nat.lt_of_lt_of_le (by decide) hn) (sM_0 hT)) rfl 17 (by decide) (htg _ q_990) (fun _ h9 => h9) rfl dX7_frost_130 ?_
              refine lv_iconst (v := 2) hx hb dX7_frost_133 (by decide) ?_
              refine lv_iload hx hb dX7_frost_134 (lv_at hl 2 rfl) ?_
              refine th_iast (T := TyM a E) (Rl := fr [(8, 9), (13, 14), (15, 16)] [] C) hx hb hK hP hD hS 13 (Nat.lt_of_lt_of_le (by decide) hn) (sM_13 hT) (rg_in (rg_c (v := 2) (lo := 2) (hi := 2) (by decide)) (by decide)) (hT.up 13 (by decide) (tA_upd (tM_13 hT) tA_any)) (fr_st hF (by decide) (by decide)) dX7_frost_136 (fun C_70 H locs e_71 hT hF hP hD hS => ?_)
              have t_72 := hT
              refine lv_iload hx hb dX7_frost_137 (lv_at hl 0 rfl) ?_
              refine lv_iconst (v := (-1)) hx hb dX7_frost_139 (by decide) ?_
              refine lv_icmp_ne (tgt := 151) hx hb dX7_frost_140 (by decide) (fun (c_73 : ¬ (r_65 = (-1))) => ?_) (fun (c_73 : r_65 = (-1)) => ?_)
              · refine lv_iload hx hb dX7_frost_151 (lv_at hl 0 rfl) ?_
                refine lv_i2l (v := Int32.toInt64 r_65) hx hb dX7_frost_153 (by rfl) ?_
                refine lv_lstore (lv' := [(12, .long (Int32.toInt64 r_65)), (11, .int r_65), (10, .int r_57), (9, .int (ga (C 13) ((2 : Int32)).toNatClampNeg)), (8, .int 1), (0, .ref (a 0)), (1, .int x1), (2, .int x2), (3, .int x3), (4, .int x4), (5, .int x5), (6, .int x6), (7, .int x7)]) hx hb dX7_frost_154 hl (by decide) rfl (fun ls hl => ?_)
                refine lv_lconst (v := 1) hx hb dX7_frost_156 (by decide) ?_
                refine lv_lstore (lv' := [(14, .long 1), (12, .long (Int32.toInt64 r_65)), (11, .int r_65), (10, .int r_57), (9, .int (ga (C 13) ((2 : Int32)).toNatClampNeg)), (8, .int 1), (0, .ref (a 0)), (1, .int x1), (2, .int x2), (3, .int x3), (4, .int x4), (5, .int x5), (6, .int x6), (7, .int x7)]) hx hb dX7_frost_157 hl (by decide) rfl (fun ls hl => ?_)
                refine lv_iconst (v := 0) hx hb dX7_frost_159 (by decide) ?_
                refine lv_istore (lv' := [(16, .int 0), (14, .long 1), (12, .long (Int32.toInt64 r_65)), (11, .int r_65), (10, .int r_57), (9, .int (ga (C 13) ((2 : Int32)).toNatClampNeg)), (8, .int 1), (0, .ref (a 0)), (1, .int x1), (2, .int x2), (3, .int x3), (4, .int x4), (5, .int x5), (6, .int x6), (7, .int x7)]) hx hb dX7_frost_160 hl (by decide) rfl (fun ls hl => ?_)
                have L_162 : ∀ (d : Nat) (K162 : Nat → va_E) (z162_16 : Int32) (z162_14 : Int64) (z162_12 : Int64) (H : Heap) (locs : List Loc) (ls : Array Slot), (6 - z162_16.toInt).toNat = d → rg z162_16 0 6 → TyM a E K162 → fr [(8, 9), (13, 14), (15, 16)] [] C K162 → fr [] [] C_70 K162 → va_P D vwCl (oh_W n a K162) H → va_D A (oh_W n a K162) → va_S A s.heap H locs → lv_has ls 19 [(16, .int z162_16), (14, .long z162_14), (12, .long z162_12), (11, .int r_65), (10, .int r_57), (9, .int (ga (C 13) ((2 : Int32)).toNatClampNeg)), (8, .int 1), (0, .ref (a 0)), (1, .int x1), (2, .int x2), (3, .int x3), (4, .int x4), (5, .int x5), (6, .int x6), (7, .int x7)] → W p l e ({ frames := 7, cells := 0, slots := 0, locals := 177 }) s m (([.ref (a 0), .int x1, .int x2, .int x3, .int x4, .int x5, .int x6, .int x7] : List Value).toArray) below meth c H locs 0 0 Q (F0 m 162 ls []) := by
                  intro d
                  induction d using Nat.strongRecOn with
                  | ind d ih_162 =>
                  intro K162 z162_16 z162_14 z162_12 H locs ls hd_162 hz162_16 hT hF hLF_162 hP hD hS hl
                  have t_74 := hT
                  refine lv_iload hx hb dX7_frost_162 (lv_at hl 0 rfl) ?_
                  refine lv_iload hx hb dX7_frost_164 (lv_at hl 12 rfl) ?_
                  refine lv_icmp_ge (tgt := 241) hx hb dX7_frost_166 (by decide) (fun (c_75 : x5 ≤ z162_16) => ?_) (fun (c_75 : ¬ (x5 ≤ z162_16)) => ?_)
                  · refine lv_lload hx hb dX7_frost_241 (lv_at hl 2 rfl) ?_
                    rw [hQ]
                    exact W.lret (v := z162_12) hx hb hr (fun t ht hW => ⟨⟨z162_12, K162, rfl, ⟨hT, hF, ⟨⟨hR.1.fr hF (by decide), hR.2.fr hF (by decide)⟩, (by rw [(hLF_162.1 13 rfl (by decide)), (st_ga e_71), (f_68.1 13 rfl (by decide)), (st_ga e_63), (f_60.1 13 rfl (by decide)), (st_ga e_55)]; exact upd_b3)⟩⟩, ⟨by rw [ht]; exact hP, hD⟩⟩, hS.F ht⟩) hS.2.2 dX7_frost_243
                  · refine lv_ldc2 (v := 10) hx hb hown (htg _ q_1207) dX7_frost_169 ?_
                    refine lv_lload hx hb dX7_frost_172 (lv_at hl 1 rfl) ?_
                    refine lv_lmul hx hb dX7_frost_174 ?_
                    refine lv_iload hx hb dX7_frost_175 (lv_at hl 14 rfl) ?_
                    refine lv_i2l (v := Int32.toInt64 x7) hx hb dX7_frost_177 (by rfl) ?_
                    refine lv_lmul hx hb dX7_frost_178 ?_
                    refine lv_iload hx hb dX7_frost_179 (lv_at hl 13 rfl) ?_
                    refine lv_i2l (v := Int32.toInt64 x6) hx hb dX7_frost_181 (by rfl) ?_
                    refine lv_lload hx hb dX7_frost_182 (lv_at hl 1 rfl) ?_
                    refine lv_lmul hx hb dX7_frost_184 ?_
                    refine lv_iload hx hb dX7_frost_185 (lv_at hl 4 rfl) ?_
                    refine lv_i2l (v := Int32.toInt64 r_57) hx hb dX7_frost_187 (by rfl) ?_
                    refine lv_lmul hx hb dX7_frost_188 ?_
                    refine lv_ladd hx hb dX7_frost_189 ?_
                    refine lv_bipush (v := 10) hx hb dX7_frost_190 (by decide) ?_
                    refine lv_iload hx hb dX7_frost_192 (lv_at hl 13 rfl) ?_
                    refine lv_isub hx hb dX7_frost_194 ?_
                    refine lv_i2l (v := Int32.toInt64 (10 - x6)) hx hb dX7_frost_195 (by rfl) ?_
                    refine lv_lload hx hb dX7_frost_196 (lv_at hl 2 rfl) ?_
                    refine lv_lmul hx hb dX7_frost_198 ?_
                    refine lv_ladd hx hb dX7_frost_199 ?_
                    refine lv_lstore (lv' := [(17, .long ((((10 * z162_14) * (Int32.toInt64 x7)) + (((Int32.toInt64 x6) * z162_14) * (Int32.toInt64 r_57))) + ((Int32.toInt64 (10 - x6)) * z162_12))), (16, .int z162_16), (14, .long z162_14), (12, .long z162_12), (11, .int r_65), (10, .int r_57), (9, .int (ga (C 13) ((2 : Int32)).toNatClampNeg)), (8, .int 1), (0, .ref (a 0)), (1, .int x1), (2, .int x2), (3, .int x3), (4, .int x4), (5, .int x5), (6, .int x6), (7, .int x7)]) hx hb dX7_frost_200 hl (by decide) rfl (fun ls hl => ?_)
                    refine lv_lload hx hb dX7_frost_202 (lv_at hl 2 rfl) ?_
                    refine lv_ldc2 (v := 10) hx hb hown (htg _ q_1207) dX7_frost_204 ?_
                    refine lv_lmul hx hb dX7_frost_207 ?_
                    refine lv_lstore (lv' := [(14, .long (z162_14 * 10)), (17, .long ((((10 * z162_14) * (Int32.toInt64 x7)) + (((Int32.toInt64 x6) * z162_14) * (Int32.toInt64 r_57))) + ((Int32.toInt64 (10 - x6)) * z162_12))), (16, .int z162_16), (12, .long z162_12), (11, .int r_65), (10, .int r_57), (9, .int (ga (C 13) ((2 : Int32)).toNatClampNeg)), (8, .int 1), (0, .ref (a 0)), (1, .int x1), (2, .int x2), (3, .int x3), (4, .int x4), (5, .int x5), (6, .int x6), (7, .int x7)]) hx hb dX7_frost_208 hl (by decide) rfl (fun ls hl => ?_)
                    refine lv_lload hx hb dX7_frost_210 (lv_at hl 0 rfl) ?_
                    refine lv_iload hx hb dX7_frost_212 (lv_at hl 4 rfl) ?_
                    refine lv_i2l (v := Int32.toInt64 r_65) hx hb dX7_frost_214 (by rfl) ?_
                    refine lv_lmul hx hb dX7_frost_215 ?_
                    refine lv_lload hx hb dX7_frost_216 (lv_at hl 1 rfl) ?_
                    refine W.lcmp hx hb dX7_frost_218 ?_
                    refine lv_if_ge (tgt := 231) hx hb dX7_frost_219 (by decide) (fun (c_76 : (0 : Int32) ≤ (lg_cmp ((z162_14 * 10) * (Int32.toInt64 r_65)) ((((10 * z162_14) * (Int32.toInt64 x7)) + (((Int32.toInt64 x6) * z162_14) * (Int32.toInt64 r_57))) + ((Int32.toInt64 (10 - x6)) * z162_12)))) => ?_) (fun (c_76 : ¬ ((0 : Int32) ≤ (lg_cmp ((z162_14 * 10) * (Int32.toInt64 r_65)) ((((10 * z162_14) * (Int32.toInt64 x7)) + (((Int32.toInt64 x6) * z162_14) * (Int32.toInt64 r_57))) + ((Int32.toInt64 (10 - x6)) * z162_12))))) => ?_)
                    · refine lv_lload hx hb dX7_frost_231 (lv_at hl 1 rfl) ?_
                      refine lv_lstore (lv' := [(12, .long ((((10 * z162_14) * (Int32.toInt64 x7)) + (((Int32.toInt64 x6) * z162_14) * (Int32.toInt64 r_57))) + ((Int32.toInt64 (10 - x6)) * z162_12))), (14, .long (z162_14 * 10)), (17, .long ((((10 * z162_14) * (Int32.toInt64 x7)) + (((Int32.toInt64 x6) * z162_14) * (Int32.toInt64 r_57))) + ((Int32.toInt64 (10 - x6)) * z162_12))), (16, .int z162_16), (11, .int r_65), (10, .int r_57), (9, .int (ga (C 13) ((2 : Int32)).toNatClampNeg)), (8, .int 1), (0, .ref (a 0)), (1, .int x1), (2, .int x2), (3, .int x3), (4, .int x4), (5, .int x5), (6, .int x6), (7, .int x7)]) hx hb dX7_frost_233 hl (by decide) rfl (fun ls hl => ?_)
                      refine lv_iinc (v := z162_16 + 1) (lv' := [(16, .int (z162_16 + 1)), (12, .long ((((10 * z162_14) * (Int32.toInt64 x7)) + (((Int32.toInt64 x6) * z162_14) * (Int32.toInt64 r_57))) + ((Int32.toInt64 (10 - x6)) * z162_12))), (14, .long (z162_14 * 10)), (17, .long ((((10 * z162_14) * (Int32.toInt64 x7)) + (((Int32.toInt64 x6) * z162_14) * (Int32.toInt64 r_57))) + ((Int32.toInt64 (10 - x6)) * z162_12))), (11, .int r_65), (10, .int r_57), (9, .int (ga (C 13) ((2 : Int32)).toNatClampNeg)), (8, .int 1), (0, .ref (a 0)), (1, .int x1), (2, .int x2), (3, .int x3), (4, .int x4), (5, .int x5), (6, .int x6), (7, .int x7)]) hx hb dX7_frost_235 hl (k := 3) rfl (by rfl) (by decide) rfl (fun ls hl => ?_)
                      refine lv_goto (tgt := 162) hx hb dX7_frost_238 (by decide) ?_
                      exact ih_162 _ (hd_162 ▸ mu_up 6 (rn_ltu (u' := 5) (Int32.not_le.mp c_75) hz162_16 (rg_il (rgL_i (rg_il (rnL_leu u_39.2 (rnL_lel u_39.1 (rgL_c (v := 0) (lo := 0) (hi := 0) (by decide)) (rgL_i (rg_any _))) (rgL_c (v := 6) (lo := 6) (hi := 6) (by decide)))))) (by decide)) (by decide)) K162 (z162_16 + 1) (z162_14 * 10) ((((10 * z162_14) * (Int32.toInt64 x7)) + (((Int32.toInt64 x6) * z162_14) * (Int32.toInt64 r_57))) + ((Int32.toInt64 (10 - x6)) * z162_12)) _ _ ls rfl (rg_w (rg_add (lo := 1) (hi := 6) (rn_ltu (u' := 5) (Int32.not_le.mp c_75) hz162_16 (rg_il (rgL_i (rg_il (rnL_leu u_39.2 (rnL_lel u_39.1 (rgL_c (v := 0) (lo := 0) (hi := 0) (by decide)) (rgL_i (rg_any _))) (rgL_c (v := 6) (lo := 6) (hi := 6) (by decide)))))) (by decide)) (rg_c (v := 1) (lo := 1) (hi := 1) (by decide)) (by decide)) (by decide)) hT hF hLF_162 hP hD hS (lv_sub hl [0, 2, 1, 4, 5, 6, 7, 8, 9, 10, 11, 12, 13, 14, 15] rfl)
                    · refine lv_lload hx hb dX7_frost_222 (lv_at hl 0 rfl) ?_
                      refine lv_iload hx hb dX7_frost_224 (lv_at hl 4 rfl) ?_
                      refine lv_i2l (v := Int32.toInt64 r_65) hx hb dX7_frost_226 (by rfl) ?_
                      refine lv_lmul hx hb dX7_frost_227 ?_
                      refine lv_goto (tgt := 233) hx hb dX7_frost_228 (by decide) ?_
                      refine lv_lstore (lv' := [(12, .long ((z162_14 * 10) * (Int32.toInt64 r_65))), (14, .long (z162_14 * 10)), (17, .long ((((10 * z162_14) * (Int32.toInt64 x7)) + (((Int32.toInt64 x6) * z162_14) * (Int32.toInt64 r_57))) + ((Int32.toInt64 (10 - x6)) * z162_12))), (16, .int z162_16), (11, .int r_65), (10, .int r_57), (9, .int (ga (C 13) ((2 : Int32)).toNatClampNeg)), (8, .int 1), (0, .ref (a 0)), (1, .int x1), (2, .int x2), (3, .int x3), (4, .int x4), (5, .int x5), (6, .int x6), (7, .int x7)]) hx hb dX7_frost_233 hl (by decide) rfl (fun ls hl => ?_)
                      refine lv_iinc (v := z162_16 + 1) (lv' := [(16, .int (z162_16 + 1)), (12, .long ((z162_14 * 10) * (Int32.toInt64 r_65))), (14, .long (z162_14 * 10)), (17, .long ((((10 * z162_14) * (Int32.toInt64 x7)) + (((Int32.toInt64 x6) * z162_14) * (Int32.toInt64 r_57))) + ((Int32.toInt64 (10 - x6)) * z162_12))), (11, .int r_65), (10, .int r_57), (9, .int (ga (C 13) ((2 : Int32)).toNatClampNeg)), (8, .int 1), (0, .ref (a 0)), (1, .int x1), (2, .int x2), (3, .int x3), (4, .int x4), (5, .int x5), (6, .int x6), (7, .int x7)]) hx hb dX7_frost_235 hl (k := 3) rfl (by rfl) (by decide) rfl (fun ls hl => ?_)
                      refine lv_goto (tgt := 162) hx hb dX7_frost_238 (by decide) ?_
                      exact ih_162 _ (hd_162 ▸ mu_up 6 (rn_ltu (u' := 5) (Int32.not_le.mp c_75) hz162_16 (rg_il (rgL_i (rg_il (rnL_leu u_39.2 (rnL_lel u_39.1 (rgL_c (v := 0) (lo := 0) (hi := 0) (by decide)) (rgL_i (rg_any _))) (rgL_c (v := 6) (lo := 6) (hi := 6) (by decide)))))) (by decide)) (by decide)) K162 (z162_16 + 1) (z162_14 * 10) ((z162_14 * 10) * (Int32.toInt64 r_65)) _ _ ls rfl (rg_w (rg_add (lo := 1) (hi := 6) (rn_ltu (u' := 5) (Int32.not_le.mp c_75) hz162_16 (rg_il (rgL_i (rg_il (rnL_leu u_39.2 (rnL_lel u_39.1 (rgL_c (v := 0) (lo := 0) (hi := 0) (by decide)) (rgL_i (rg_any _))) (rgL_c (v := 6) (lo := 6) (hi := 6) (by decide)))))) (by decide)) (rg_c (v := 1) (lo := 1) (hi := 1) (by decide)) (by decide)) (by decide)) hT hF hLF_162 hP hD hS (lv_sub hl [0, 2, 1, 4, 5, 6, 7, 8, 9, 10, 11, 12, 13, 14, 15] rfl)
                exact L_162 _ C_70 0 1 (Int32.toInt64 r_65) _ _ ls rfl (rg_w (rg_c (v := 0) (lo := 0) (hi := 0) (by decide)) (by decide)) hT hF fr_rf hP hD hS (lv_sub hl [0, 1, 2, 3, 4, 5, 6, 7, 8, 9, 10, 11, 12, 13, 14] rfl)
              · refine lv_aload_n hx hb dX7_frost_143 rfl (lv_at hl 4 rfl) ?_
                refine lv_bipush (v := (-5)) hx hb dX7_frost_144 (by decide) ?_
                refine tm_V (As := [.int (-5)]) (rest := []) ⟨hx, hb, hml, hown, htg⟩ (c_X7_refuse l D E G _ a C_70 n hn hT ((-5) : Int32) (rg_w (rg_c (v := (-5)) (lo := (-5)) (hi := (-5)) (by decide)) (by decide))) (cwV 1 htg (oh_gV q_1071 q_1073 q_29 q_73 q_1074) rfl rfl rfl pdVX7_refuse ⟨Nat.le_of_ble_eq_true rfl, Nat.le_of_ble_eq_true rfl⟩) hK hP hD hG hS hA (va_recv hK hP (ci := 7) (q0 := 0) rfl (oh_wg (Nat.lt_of_lt_of_le (by decide) hn) (sM_0 hT))) rfl hl.1 rfl (Nat.le_of_ble_eq_true rfl) dX7_frost_146 ⟨Nat.le_of_ble_eq_true rfl, Nat.le_of_ble_eq_true rfl⟩ (fun r_77 C_78 H locs hq_79 hP hD hS => ?_)
                obtain ⟨hT, f_80, hq_79⟩ := hq_79
                have hF := fr_tr hF f_80 (by decide) (by decide)
                refine W.widen (k := 0) (n := 0) (Nat.le_refl _) (Nat.le_refl _) ?_
                have t_81 := hT
                refine lv_i2l (v := Int32.toInt64 r_77) hx hb dX7_frost_149 (by rfl) ?_
                rw [hQ]
                exact W.lret (v := Int32.toInt64 r_77) hx hb hr (fun t ht hW => ⟨⟨Int32.toInt64 r_77, C_78, rfl, ⟨hT, hF, ⟨⟨hR.1.fr hF (by decide), hR.2.fr hF (by decide)⟩, (by rw [(f_80.1 13 rfl (by decide)), (st_ga e_71), (f_68.1 13 rfl (by decide)), (st_ga e_63), (f_60.1 13 rfl (by decide)), (st_ga e_55)]; exact upd_b3)⟩⟩, ⟨by rw [ht]; exact hP, hD⟩⟩, hS.F ht⟩) hS.2.2 dX7_frost_150
            · have u_82 := hq_51.2.2 c_52
              refine lv_aload_n hx hb dX7_frost_75 rfl (lv_at hl 1 rfl) ?_
              refine lv_bipush (v := (-2)) hx hb dX7_frost_76 (by decide) ?_
              refine tm_V (As := [.int (-2)]) (rest := []) ⟨hx, hb, hml, hown, htg⟩ (c_X7_refuse l D E G _ a C n hn hT ((-2) : Int32) (rg_w (rg_c (v := (-2)) (lo := (-2)) (hi := (-2)) (by decide)) (by decide))) (cwV 1 htg (oh_gV q_1071 q_1073 q_29 q_73 q_1074) rfl rfl rfl pdVX7_refuse ⟨Nat.le_of_ble_eq_true rfl, Nat.le_of_ble_eq_true rfl⟩) hK hP hD hG hS hA (va_recv hK hP (ci := 7) (q0 := 0) rfl (oh_wg (Nat.lt_of_lt_of_le (by decide) hn) (sM_0 hT))) rfl hl.1 rfl (Nat.le_of_ble_eq_true rfl) dX7_frost_78 ⟨Nat.le_of_ble_eq_true rfl, Nat.le_of_ble_eq_true rfl⟩ (fun r_83 C_84 H locs hq_85 hP hD hS => ?_)
              obtain ⟨hT, f_86, hq_85⟩ := hq_85
              have hF := fr_tr hF f_86 (by decide) (by decide)
              refine W.widen (k := 0) (n := 0) (Nat.le_refl _) (Nat.le_refl _) ?_
              have t_87 := hT
              refine lv_i2l (v := Int32.toInt64 r_83) hx hb dX7_frost_81 (by rfl) ?_
              rw [hQ]
              exact W.lret (v := Int32.toInt64 r_83) hx hb hr (fun t ht hW => ⟨⟨Int32.toInt64 r_83, C_84, rfl, ⟨hT, hF, ⟨⟨hR.1.fr hF (by decide), hR.2.fr hF (by decide)⟩, (congrArg ga (f_86.1 13 rfl (by decide)))⟩⟩, ⟨by rw [ht]; exact hP, hD⟩⟩, hS.F ht⟩) hS.2.2 dX7_frost_82
