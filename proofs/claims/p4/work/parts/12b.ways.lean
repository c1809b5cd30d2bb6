set_option maxHeartbeats 4000000 in
set_option maxRecDepth 100000 in
theorem c_X5_survey (l : Launch) (D : va_G) (E : Nat → ClassId) (G : Nat → Nat) (sz : Nat) (a : Nat → Nat) (C : Nat → va_E) (hT : TyX a E C) (x1 : Int32) (x2 : Int32) (hx1 : rg x1 0 4) : Met l yX5_survey (oh_w yX5_survey cX5_survey 6 none) ({ frames := 3, cells := 0, slots := 0, locals := 75 }) (oh_Pm D E G [.ref (a 3), .int x1, .int x2] (oh_W 35 a C) sz) (va_Qv (fun (u : Nat → va_E) => TyX a E u ∧ fr [(9, 10), (24, 26)] [] C u ∧ True) (oh_B D (va_A (oh_W 35 a C) sz) (fun u => oh_W 35 a u)) (va_A (oh_W 35 a C) sz)) 0 0 (va_A (oh_W 35 a C) sz) := by
  refine Met.ofW (cc := cX5_survey) (maxL := 6) (ret := none) (by decide) rfl ?_
  intro p e s m args below meth c s₁ B hml hv
  obtain ⟨rfl, hsz, hP, hK, hD0, hG⟩ := hv
  have hx := B.exec
  have hb := B.bytes
  have hr := B.returns
  have hts := atoms_spec (ws := (oh_w yX5_survey cX5_survey 6 none)) B.pre
  have htg : ∀ w ∈ oh_t, w.before _ s = true := fun w h => hts w (List.mem_cons_of_mem _ h)
  have hown : s.vm.findClass RX5 = some m.cls := findClass_of_methodNamed B.named
  have hlocks := B.notSynchronized
  have hT0 := hT
  subst hsz
  have hD := hD0.self (sz := s.heap.size)
  generalize hAe : va_A (oh_W 35 a C) s.heap.size = A at hD hG ⊢
  have hA : ∀ q : Nat, s.heap.size ≤ q → A q := fun q h => by rw [← hAe]; exact Or.inr h
  have hS : va_S A s.heap s.heap [] := va_S.rf
  have hF : fr [(9, 10), (24, 26)] [] C C := fr_rf
  have hl := lv_entry ([.ref (a 3), .int x1, .int x2]) (n := 6) (Nat.le_of_ble_eq_true rfl)
  rw [lg_entry_eq]
  generalize (lg_sl ([.ref (a 3), .int x1, .int x2]) ++ List.replicate (6 - (lg_sl ([.ref (a 3), .int x1, .int x2])).length) Slot.unset).toArray = ls at hl ⊢
  have hl : lv_has ls 6 [(0, .ref (a 3)), (1, .int x1), (2, .int x2)] := hl
  refine oh_genQ (fun Q hQ => ?_)
  refine lv_aload_n hx hb dX5_survey_0 rfl (lv_at hl 0 rfl) ?_
  refine va_get (D := D) (ci := 5) (v := .ref (a 9)) (C := RX5) (T := TX5) (N := 7) hx hb htg ig_5 hown hK hP 3 (oh_wg (by decide) (sX_3 hT)) rfl 1 (by decide) (htg _ q_168) (fun _ h9 => h9) rfl dX5_survey_1 ?_
  refine lv_aload_n hx hb dX5_survey_4 rfl (lv_at hl 0 rfl) ?_
  refine va_get (D := D) (ci := 5) (v := .ref (a 1)) (C := RX5) (T := TX5) (N := 7) hx hb htg ig_5 hown hK hP 3 (oh_wg (by decide) (sX_3 hT)) rfl 0 (by decide) (htg _ q_167) (fun _ h9 => h9) rfl dX5_survey_5 ?_
  refine lv_iload_n hx hb dX5_survey_8 rfl (lv_at hl 1 rfl) ?_
  refine lv_iload_n hx hb dX5_survey_9 rfl (lv_at hl 2 rfl) ?_
  refine tm_Vv (As := [.ref (a 1), .int x1, .int x2]) (rest := []) ⟨hx, hb, hml, hown, htg⟩ (c_X1_take l D E G _ a C hT x1 x2 (rg_w hx1 (by decide))) (cwV 3 htg (oh_gV q_754 q_704 q_705 q_69 q_706) rfl rfl rfl pdVX1_take ⟨Nat.le_of_ble_eq_true rfl, Nat.le_of_ble_eq_true rfl⟩) hK hP hD hG hS hA (va_recv hK hP (ci := 1) (q0 := 9) rfl (oh_wg (by decide) (sX_9 hT))) rfl hl.1 rfl (Nat.le_of_ble_eq_true rfl) dX5_survey_10 ⟨Nat.le_of_ble_eq_true rfl, Nat.le_of_ble_eq_true rfl⟩ (fun C_2 H locs hq_3 hP hD hS => ?_)
  obtain ⟨hT, f_4, hq_3⟩ := hq_3
  have hF := fr_tr hF f_4 (by decide) (by decide)
  refine W.widen (k := 0) (n := 0) (Nat.le_refl _) (Nat.le_refl _) ?_
  have t_5 := hT
  refine lv_iconst (v := 0) hx hb dX5_survey_13 (by decide) ?_
  refine lv_istore_n (lv' := [(3, .int 0), (0, .ref (a 3)), (1, .int x1), (2, .int x2)]) hx hb dX5_survey_14 rfl hl (by decide) rfl (fun ls hl => ?_)
  have L_15 : ∀ (d : Nat) (K15 : Nat → va_E) (z15_3 : Int32) (H : Heap) (locs : List Loc) (ls : Array Slot), (24 - z15_3.toInt).toNat = d → rg z15_3 0 24 → TyX a E K15 → fr [(9, 10), (24, 26)] [] C K15 → fr [(24, 26)] [] C_2 K15 → va_P D vwCl (oh_W 35 a K15) H → va_D A (oh_W 35 a K15) → va_S A s.heap H locs → lv_has ls 6 [(3, .int z15_3), (0, .ref (a 3)), (1, .int x1), (2, .int x2)] → W p l e ({ frames := 3, cells := 0, slots := 0, locals := 75 }) s m (([.ref (a 3), .int x1, .int x2] : List Value).toArray) below meth c H locs 0 0 Q (F0 m 15 ls []) := by
    intro d
    induction d using Nat.strongRecOn with
    | ind d ih_15 =>
    intro K15 z15_3 H locs ls hd_15 hz15_3 hT hF hLF_15 hP hD hS hl
    have t_6 := hT
    refine lv_iload_n hx hb dX5_survey_15 rfl (lv_at hl 0 rfl) ?_
    refine lv_aload_n hx hb dX5_survey_16 rfl (lv_at hl 1 rfl) ?_
    refine va_get (D := D) (ci := 5) (v := .ref (a 1)) (C := RX5) (T := TX5) (N := 7) hx hb htg ig_5 hown hK hP 3 (oh_wg (by decide) (sX_3 hT)) rfl 0 (by decide) (htg _ q_167) (fun _ h9 => h9) rfl dX5_survey_17 ?_
    refine va_get (D := D) (ci := 0) (v := .ref (a 10)) (C := RX0) (T := TX0) (N := 8) hx hb htg ig_0 hown hK hP 1 (oh_wg (by decide) (sX_1 hT)) rfl 0 (by decide) (htg _ q_99) (fun _ h9 => h9) rfl dX5_survey_20 ?_
    refine lv_iconst (v := 0) hx hb dX5_survey_23 (by decide) ?_
    refine th_iald hx hb hK hP 10 (by decide) (Eq.trans (Eq.trans (hLF_15.1 10 rfl (by decide)) (f_4.1 10 rfl (by decide))) (sX_10 hT0)) (rg_in (rg_c (v := 0) (lo := 0) (hi := 0) (by decide)) (by decide)) dX5_survey_24 ?_
    refine lv_icmp_ge (tgt := 96) hx hb dX5_survey_25 (by decide) (fun (c_7 : (ga (C 10) ((0 : Int32)).toNatClampNeg) ≤ z15_3) => ?_) (fun (c_7 : ¬ ((ga (C 10) ((0 : Int32)).toNatClampNeg) ≤ z15_3)) => ?_)
    · refine lv_iconst (v := 0) hx hb dX5_survey_96 (by decide) ?_
      refine lv_istore_n (lv' := [(3, .int 0), (0, .ref (a 3)), (1, .int x1), (2, .int x2)]) hx hb dX5_survey_97 rfl hl (by decide) rfl (fun ls hl => ?_)
      have L_98 : ∀ (d : Nat) (K98 : Nat → va_E) (z98_3 : Int32) (H : Heap) (locs : List Loc) (ls : Array Slot), (16 - z98_3.toInt).toNat = d → rg z98_3 0 16 → TyX a E K98 → fr [(9, 10), (24, 26)] [] C K98 → fr [(24, 26)] [] K15 K98 → va_P D vwCl (oh_W 35 a K98) H → va_D A (oh_W 35 a K98) → va_S A s.heap H locs → lv_has ls 6 [(3, .int z98_3), (0, .ref (a 3)), (1, .int x1), (2, .int x2)] → W p l e ({ frames := 3, cells := 0, slots := 0, locals := 75 }) s m (([.ref (a 3), .int x1, .int x2] : List Value).toArray) below meth c H locs 0 0 Q (F0 m 98 ls []) := by
        intro d
        induction d using Nat.strongRecOn with
        | ind d ih_98 =>
        intro K98 z98_3 H locs ls hd_98 hz98_3 hT hF hLF_98 hP hD hS hl
        have t_8 := hT
        refine lv_iload_n hx hb dX5_survey_98 rfl (lv_at hl 0 rfl) ?_
        refine lv_aload_n hx hb dX5_survey_99 rfl (lv_at hl 1 rfl) ?_
        refine va_get (D := D) (ci := 5) (v := .ref (a 1)) (C := RX5) (T := TX5) (N := 7) hx hb htg ig_5 hown hK hP 3 (oh_wg (by decide) (sX_3 hT)) rfl 0 (by decide) (htg _ q_167) (fun _ h9 => h9) rfl dX5_survey_100 ?_
        refine va_get (D := D) (ci := 0) (v := .ref (a 10)) (C := RX0) (T := TX0) (N := 8) hx hb htg ig_0 hown hK hP 1 (oh_wg (by decide) (sX_1 hT)) rfl 0 (by decide) (htg _ q_99) (fun _ h9 => h9) rfl dX5_survey_103 ?_
        refine lv_iconst (v := 1) hx hb dX5_survey_106 (by decide) ?_
        refine th_iald hx hb hK hP 10 (by decide) (Eq.trans (Eq.trans (hLF_98.1 10 rfl (by decide)) (Eq.trans (hLF_15.1 10 rfl (by decide)) (f_4.1 10 rfl (by decide)))) (sX_10 hT0)) (rg_in (rg_c (v := 1) (lo := 1) (hi := 1) (by decide)) (by decide)) dX5_survey_107 ?_
        refine lv_icmp_ge (tgt := 211) hx hb dX5_survey_108 (by decide) (fun (c_9 : (ga (C 10) ((1 : Int32)).toNatClampNeg) ≤ z98_3) => ?_) (fun (c_9 : ¬ ((ga (C 10) ((1 : Int32)).toNatClampNeg) ≤ z98_3)) => ?_)
        · rw [hQ]
          exact W.vret hx hb hr (fun t ht hW => ⟨⟨K98, rfl, ⟨hT, hF, trivial⟩, ⟨by rw [ht]; exact hP, hD⟩⟩, hS.F ht⟩) hS.2.2 dX5_survey_211
        · refine lv_aload_n hx hb dX5_survey_111 rfl (lv_at hl 1 rfl) ?_
          refine va_get (D := D) (ci := 5) (v := .ref (a 1)) (C := RX5) (T := TX5) (N := 7) hx hb htg ig_5 hown hK hP 3 (oh_wg (by decide) (sX_3 hT)) rfl 0 (by decide) (htg _ q_167) (fun _ h9 => h9) rfl dX5_survey_112 ?_
          refine lv_iload_n hx hb dX5_survey_115 rfl (lv_at hl 0 rfl) ?_
          refine lv_iconst (v := 0) hx hb dX5_survey_116 (by decide) ?_
          refine tq_V (As := [.int z98_3, .int 0]) (rest := []) (ws := (oh_W 35 a K98)) ⟨hx, hb, hml, hown, htg⟩ (c_X0_ofBridge l D E G a K98 hT z98_3 (0 : Int32) (rg_w (rn_ltu (u' := 15) (Int32.not_le.mp c_9) hz98_3 (tA_rdc (lo := 0) (hi := 16) (tX_10 hT0) (rg_in (rg_c (v := 1) (lo := 1) (hi := 1) (by decide)) (by decide)) (show _ = 1 by decide) (by decide)) (by decide)) (by decide)) (rg_w (rg_c (v := 0) (lo := 0) (hi := 0) (by decide)) (by decide))) (cwV 2 htg (oh_gV q_756 q_385 q_386 q_67 q_387) rfl rfl rfl pdVX0_ofBridge ⟨Nat.le_of_ble_eq_true rfl, Nat.le_of_ble_eq_true rfl⟩) hK hP hG hS (va_recv hK hP (ci := 0) (q0 := 1) rfl (oh_wg (by decide) (sX_1 hT))) rfl hl.1 rfl (Nat.le_of_ble_eq_true rfl) dX5_survey_117 ⟨Nat.le_of_ble_eq_true rfl, Nat.le_of_ble_eq_true rfl⟩ (fun r_10 hq_11 => ?_)
          subst hq_11
          refine lv_istore (lv' := [(4, .int (ga (K98 12) ((z98_3 * 10) + 0).toNatClampNeg)), (3, .int z98_3), (0, .ref (a 3)), (1, .int x1), (2, .int x2)]) hx hb dX5_survey_120 hl (by decide) rfl (fun ls hl => ?_)
          refine lv_aload_n hx hb dX5_survey_122 rfl (lv_at hl 2 rfl) ?_
          refine va_get (D := D) (ci := 5) (v := .ref (a 24)) (C := RX5) (T := TX5) (N := 7) hx hb htg ig_5 hown hK hP 3 (oh_wg (by decide) (sX_3 hT)) rfl 2 (by decide) (htg _ q_170) (fun _ h9 => h9) rfl dX5_survey_123 ?_
          refine lv_iload hx hb dX5_survey_126 (lv_at hl 0 rfl) ?_
          have n_12 : vp_in (ga (K98 12) ((z98_3 * 10) + 0).toNatClampNeg) 24 := (rg_in (tA_rdc (lo := 0) (hi := 23) (tX_12 t_8) (rg_in (rg_add (lo := 0) (hi := 150) (rg_mul (lo := 0) (hi := 150) (rn_ltu (u' := 15) (Int32.not_le.mp c_9) hz98_3 (tA_rdc (lo := 0) (hi := 16) (tX_10 hT0) (rg_in (rg_c (v := 1) (lo := 1) (hi := 1) (by decide)) (by decide)) (show _ = 1 by decide) (by decide)) (by decide)) (rg_c (v := 10) (lo := 10) (hi := 10) (by decide)) (by decide)) (rg_c (v := 0) (lo := 0) (hi := 0) (by decide)) (by decide)) (by decide)) (oh_col (W := 10) (rn_ltu (u' := 15) (Int32.not_le.mp c_9) hz98_3 (tA_rdc (lo := 0) (hi := 16) (tX_10 hT0) (rg_in (rg_c (v := 1) (lo := 1) (hi := 1) (by decide)) (by decide)) (show _ = 1 by decide) (by decide)) (by decide)) rfl (rg_c (v := 0) (lo := 0) (hi := 0) (by decide)) (by decide)) (by decide)) (by decide))
          refine th_iald hx hb hK hP 24 (by decide) (sX_24 hT) n_12 dX5_survey_128 ?_
          refine lv_iconst (v := (-1)) hx hb dX5_survey_129 (by decide) ?_
          refine lv_icmp_ne (tgt := 137) hx hb dX5_survey_130 (by decide) (fun (c_13 : ¬ ((ga (K98 24) (ga (K98 12) ((z98_3 * 10) + 0).toNatClampNeg).toNatClampNeg) = (-1))) => ?_) (fun (c_13 : (ga (K98 24) (ga (K98 12) ((z98_3 * 10) + 0).toNatClampNeg).toNatClampNeg) = (-1)) => ?_)
          · refine lv_aload_n hx hb dX5_survey_137 rfl (lv_at hl 2 rfl) ?_
            refine va_get (D := D) (ci := 5) (v := .ref (a 9)) (C := RX5) (T := TX5) (N := 7) hx hb htg ig_5 hown hK hP 3 (oh_wg (by decide) (sX_3 hT)) rfl 1 (by decide) (htg _ q_168) (fun _ h9 => h9) rfl dX5_survey_138 ?_
            refine lv_aload_n hx hb dX5_survey_141 rfl (lv_at hl 2 rfl) ?_
            refine va_get (D := D) (ci := 5) (v := .ref (a 1)) (C := RX5) (T := TX5) (N := 7) hx hb htg ig_5 hown hK hP 3 (oh_wg (by decide) (sX_3 hT)) rfl 0 (by decide) (htg _ q_167) (fun _ h9 => h9) rfl dX5_survey_142 ?_
            refine lv_iload_n hx hb dX5_survey_145 rfl (lv_at hl 1 rfl) ?_
            refine tq_V (As := [.ref (a 1), .int z98_3]) (rest := []) (ws := (oh_W 35 a K98)) ⟨hx, hb, hml, hown, htg⟩ (c_X1_needsOf l D E G a K98 hT z98_3 (rg_w (rn_ltu (u' := 15) (Int32.not_le.mp c_9) hz98_3 (tA_rdc (lo := 0) (hi := 16) (tX_10 hT0) (rg_in (rg_c (v := 1) (lo := 1) (hi := 1) (by decide)) (by decide)) (show _ = 1 by decide) (by decide)) (by decide)) (by decide))) (cwV 2 htg (oh_gV q_757 q_738 q_739 q_69 q_740) rfl rfl rfl pdVX1_needsOf ⟨Nat.le_of_ble_eq_true rfl, Nat.le_of_ble_eq_true rfl⟩) hK hP hG hS (va_recv hK hP (ci := 1) (q0 := 9) rfl (oh_wg (by decide) (sX_9 hT))) rfl hl.1 rfl (Nat.le_of_ble_eq_true rfl) dX5_survey_146 ⟨Nat.le_of_ble_eq_true rfl, Nat.le_of_ble_eq_true rfl⟩ (fun r_14 hq_15 => ?_)
            refine lv_istore (lv' := [(5, .int r_14), (4, .int (ga (K98 12) ((z98_3 * 10) + 0).toNatClampNeg)), (3, .int z98_3), (0, .ref (a 3)), (1, .int x1), (2, .int x2)]) hx hb dX5_survey_149 hl (by decide) rfl (fun ls hl => ?_)
            refine lv_iload hx hb dX5_survey_151 (lv_at hl 0 rfl) ?_
            refine lv_iconst (v := 2) hx hb dX5_survey_153 (by decide) ?_
            refine lv_icmp_ne (tgt := 168) hx hb dX5_survey_154 (by decide) (fun (c_16 : ¬ (r_14 = 2)) => ?_) (fun (c_16 : r_14 = 2) => ?_)
            · refine lv_iload hx hb dX5_survey_168 (lv_at hl 0 rfl) ?_
              refine lv_iconst (v := 1) hx hb dX5_survey_170 (by decide) ?_
              refine lv_icmp_ne (tgt := 205) hx hb dX5_survey_171 (by decide) (fun (c_17 : ¬ (r_14 = 1)) => ?_) (fun (c_17 : r_14 = 1) => ?_)
              · refine lv_iinc (v := z98_3 + 1) (lv' := [(3, .int (z98_3 + 1)), (5, .int r_14), (4, .int (ga (K98 12) ((z98_3 * 10) + 0).toNatClampNeg)), (0, .ref (a 3)), (1, .int x1), (2, .int x2)]) hx hb dX5_survey_205 hl (k := 2) rfl (by rfl) (by decide) rfl (fun ls hl => ?_)
                refine lv_goto (tgt := 98) hx hb dX5_survey_208 (by decide) ?_
                exact ih_98 _ (hd_98 ▸ mu_up 16 (rn_ltu (u' := 15) (Int32.not_le.mp c_9) hz98_3 (tA_rdc (lo := 0) (hi := 16) (tX_10 hT0) (rg_in (rg_c (v := 1) (lo := 1) (hi := 1) (by decide)) (by decide)) (show _ = 1 by decide) (by decide)) (by decide)) (by decide)) K98 (z98_3 + 1) _ _ ls rfl (rg_w (rg_add (lo := 1) (hi := 16) (rn_ltu (u' := 15) (Int32.not_le.mp c_9) hz98_3 (tA_rdc (lo := 0) (hi := 16) (tX_10 hT0) (rg_in (rg_c (v := 1) (lo := 1) (hi := 1) (by decide)) (by decide)) (show _ = 1 by decide) (by decide)) (by decide)) (rg_c (v := 1) (lo := 1) (hi := 1) (by decide)) (by decide)) (by decide)) hT hF hLF_98 hP hD hS (lv_sub hl [0, 3, 4, 5] rfl)
              · refine lv_aload_n hx hb dX5_survey_174 rfl (lv_at hl 3 rfl) ?_
                refine va_get (D := D) (ci := 5) (v := .ref (a 24)) (C := RX5) (T := TX5) (N := 7) hx hb htg ig_5 hown hK hP 3 (oh_wg (by decide) (sX_3 hT)) rfl 2 (by decide) (htg _ q_170) (fun _ h9 => h9) rfl dX5_survey_175 ?_
                refine lv_iload hx hb dX5_survey_178 (lv_at hl 1 rfl) ?_
                refine lv_dup2_11 hx hb dX5_survey_180 rfl rfl ?_
                have n_18 : vp_in (ga (K98 12) ((z98_3 * 10) + 0).toNatClampNeg) 24 := (rg_in (tA_rdc (lo := 0) (hi := 23) (tX_12 t_8) (rg_in (rg_add (lo := 0) (hi := 150) (rg_mul (lo := 0) (hi := 150) (rn_ltu (u' := 15) (Int32.not_le.mp c_9) hz98_3 (tA_rdc (lo := 0) (hi := 16) (tX_10 hT0) (rg_in (rg_c (v := 1) (lo := 1) (hi := 1) (by decide)) (by decide)) (show _ = 1 by decide) (by decide)) (by decide)) (rg_c (v := 10) (lo := 10) (hi := 10) (by decide)) (by decide)) (rg_c (v := 0) (lo := 0) (hi := 0) (by decide)) (by decide)) (by decide)) (oh_col (W := 10) (rn_ltu (u' := 15) (Int32.not_le.mp c_9) hz98_3 (tA_rdc (lo := 0) (hi := 16) (tX_10 hT0) (rg_in (rg_c (v := 1) (lo := 1) (hi := 1) (by decide)) (by decide)) (show _ = 1 by decide) (by decide)) (by decide)) rfl (rg_c (v := 0) (lo := 0) (hi := 0) (by decide)) (by decide)) (by decide)) (by decide))
                refine th_iald hx hb hK hP 24 (by decide) (sX_24 hT) n_18 dX5_survey_181 ?_
                refine lv_iconst (v := 1) hx hb dX5_survey_182 (by decide) ?_
                refine lv_iadd hx hb dX5_survey_183 ?_
                have n_19 : vp_in (ga (K98 12) ((z98_3 * 10) + 0).toNatClampNeg) 24 := (rg_in (tA_rdc (lo := 0) (hi := 23) (tX_12 t_8) (rg_in (rg_add (lo := 0) (hi := 150) (rg_mul (lo := 0) (hi := 150) (rn_ltu (u' := 15) (Int32.not_le.mp c_9) hz98_3 (tA_rdc (lo := 0) (hi := 16) (tX_10 hT0) (rg_in (rg_c (v := 1) (lo := 1) (hi := 1) (by decide)) (by decide)) (show _ = 1 by decide) (by decide)) (by decide)) (rg_c (v := 10) (lo := 10) (hi := 10) (by decide)) (by decide)) (rg_c (v := 0) (lo := 0) (hi := 0) (by decide)) (by decide)) (by decide)) (oh_col (W := 10) (rn_ltu (u' := 15) (Int32.not_le.mp c_9) hz98_3 (tA_rdc (lo := 0) (hi := 16) (tX_10 hT0) (rg_in (rg_c (v := 1) (lo := 1) (hi := 1) (by decide)) (by decide)) (show _ = 1 by decide) (by decide)) (by decide)) rfl (rg_c (v := 0) (lo := 0) (hi := 0) (by decide)) (by decide)) (by decide)) (by decide))
                refine th_iast (T := TyX a E) (Rl := fr [(9, 10), (24, 26)] [] C) hx hb hK hP hD hS 24 (by decide) (sX_24 hT) n_19 (hT.up 24 (tA_upd (tX_24 hT) tA_any)) (fr_st hF (by decide) (by decide)) dX5_survey_184 (fun C_20 H locs e_21 hT hF hP hD hS => ?_)
                have t_22 := hT
                refine lv_aload_n hx hb dX5_survey_185 rfl (lv_at hl 3 rfl) ?_
                refine va_get (D := D) (ci := 5) (v := .ref (a 25)) (C := RX5) (T := TX5) (N := 7) hx hb htg ig_5 hown hK hP 3 (oh_wg (by decide) (sX_3 hT)) rfl 3 (by decide) (htg _ q_172) (fun _ h9 => h9) rfl dX5_survey_186 ?_
                refine lv_iload hx hb dX5_survey_189 (lv_at hl 1 rfl) ?_
                refine lv_dup2_11 hx hb dX5_survey_191 rfl rfl ?_
                have n_23 : vp_in (ga (K98 12) ((z98_3 * 10) + 0).toNatClampNeg) 24 := (rg_in (tA_rdc (lo := 0) (hi := 23) (tX_12 t_8) (rg_in (rg_add (lo := 0) (hi := 150) (rg_mul (lo := 0) (hi := 150) (rn_ltu (u' := 15) (Int32.not_le.mp c_9) hz98_3 (tA_rdc (lo := 0) (hi := 16) (tX_10 hT0) (rg_in (rg_c (v := 1) (lo := 1) (hi := 1) (by decide)) (by decide)) (show _ = 1 by decide) (by decide)) (by decide)) (rg_c (v := 10) (lo := 10) (hi := 10) (by decide)) (by decide)) (rg_c (v := 0) (lo := 0) (hi := 0) (by decide)) (by decide)) (by decide)) (oh_col (W := 10) (rn_ltu (u' := 15) (Int32.not_le.mp c_9) hz98_3 (tA_rdc (lo := 0) (hi := 16) (tX_10 hT0) (rg_in (rg_c (v := 1) (lo := 1) (hi := 1) (by decide)) (by decide)) (show _ = 1 by decide) (by decide)) (by decide)) rfl (rg_c (v := 0) (lo := 0) (hi := 0) (by decide)) (by decide)) (by decide)) (by decide))
                refine th_iald hx hb hK hP 25 (by decide) (Eq.trans (th_un e_21 (by decide)) (sX_25 t_8)) n_23 dX5_survey_192 ?_
                refine lv_aload_n hx hb dX5_survey_193 rfl (lv_at hl 3 rfl) ?_
                refine va_get (D := D) (ci := 5) (v := .ref (a 1)) (C := RX5) (T := TX5) (N := 7) hx hb htg ig_5 hown hK hP 3 (oh_wg (by decide) (sX_3 hT)) rfl 0 (by decide) (htg _ q_167) (fun _ h9 => h9) rfl dX5_survey_194 ?_
                refine lv_iload_n hx hb dX5_survey_197 rfl (lv_at hl 2 rfl) ?_
                refine lv_bipush (v := 6) hx hb dX5_survey_198 (by decide) ?_
                refine tq_V (As := [.int z98_3, .int 6]) (rest := [.int (ga (K98 25) (ga (K98 12) ((z98_3 * 10) + 0).toNatClampNeg).toNatClampNeg), .int (ga (K98 12) ((z98_3 * 10) + 0).toNatClampNeg), .ref (a 25)]) (ws := (oh_W 35 a C_20)) ⟨hx, hb, hml, hown, htg⟩ (c_X0_ofBridge l D E G a C_20 hT z98_3 (6 : Int32) (rg_w (rn_ltu (u' := 15) (Int32.not_le.mp c_9) hz98_3 (tA_rdc (lo := 0) (hi := 16) (tX_10 hT0) (rg_in (rg_c (v := 1) (lo := 1) (hi := 1) (by decide)) (by decide)) (show _ = 1 by decide) (by decide)) (by decide)) (by decide)) (rg_w (rg_c (v := 6) (lo := 6) (hi := 6) (by decide)) (by decide))) (cwV 2 htg (oh_gV q_756 q_385 q_386 q_67 q_387) rfl rfl rfl pdVX0_ofBridge ⟨Nat.le_of_ble_eq_true rfl, Nat.le_of_ble_eq_true rfl⟩) hK hP hG hS (va_recv hK hP (ci := 0) (q0 := 1) rfl (oh_wg (by decide) (sX_1 hT))) rfl hl.1 rfl (Nat.le_of_ble_eq_true rfl) dX5_survey_200 ⟨Nat.le_of_ble_eq_true rfl, Nat.le_of_ble_eq_true rfl⟩ (fun r_24 hq_25 => ?_)
                subst hq_25
                refine lv_iadd hx hb dX5_survey_203 ?_
                have n_26 : vp_in (ga (K98 12) ((z98_3 * 10) + 0).toNatClampNeg) 24 := (rg_in (tA_rdc (lo := 0) (hi := 23) (tX_12 t_8) (rg_in (rg_add (lo := 0) (hi := 150) (rg_mul (lo := 0) (hi := 150) (rn_ltu (u' := 15) (Int32.not_le.mp c_9) hz98_3 (tA_rdc (lo := 0) (hi := 16) (tX_10 hT0) (rg_in (rg_c (v := 1) (lo := 1) (hi := 1) (by decide)) (by decide)) (show _ = 1 by decide) (by decide)) (by decide)) (rg_c (v := 10) (lo := 10) (hi := 10) (by decide)) (by decide)) (rg_c (v := 0) (lo := 0) (hi := 0) (by decide)) (by decide)) (by decide)) (oh_col (W := 10) (rn_ltu (u' := 15) (Int32.not_le.mp c_9) hz98_3 (tA_rdc (lo := 0) (hi := 16) (tX_10 hT0) (rg_in (rg_c (v := 1) (lo := 1) (hi := 1) (by decide)) (by decide)) (show _ = 1 by decide) (by decide)) (by decide)) rfl (rg_c (v := 0) (lo := 0) (hi := 0) (by decide)) (by decide)) (by decide)) (by decide))
                refine th_iast (T := TyX a E) (Rl := fr [(9, 10), (24, 26)] [] C) hx hb hK hP hD hS 25 (by decide) (sX_25 hT) n_26 (hT.up 25 (tA_upd (tX_25 hT) tA_any)) (fr_st hF (by decide) (by decide)) dX5_survey_204 (fun C_27 H locs e_28 hT hF hP hD hS => ?_)
                have t_29 := hT
                refine lv_iinc (v := z98_3 + 1) (lv' := [(3, .int (z98_3 + 1)), (5, .int r_14), (4, .int (ga (K98 12) ((z98_3 * 10) + 0).toNatClampNeg)), (0, .ref (a 3)), (1, .int x1), (2, .int x2)]) hx hb dX5_survey_205 hl (k := 2) rfl (by rfl) (by decide) rfl (fun ls hl => ?_)
                refine lv_goto (tgt := 98) hx hb dX5_survey_208 (by decide) ?_
                exact ih_98 _ (hd_98 ▸ mu_up 16 (rn_ltu (u' := 15) (Int32.not_le.mp c_9) hz98_3 (tA_rdc (lo := 0) (hi := 16) (tX_10 hT0) (rg_in (rg_c (v := 1) (lo := 1) (hi := 1) (by decide)) (by decide)) (show _ = 1 by decide) (by decide)) (by decide)) (by decide)) C_27 (z98_3 + 1) _ _ ls rfl (rg_w (rg_add (lo := 1) (hi := 16) (rn_ltu (u' := 15) (Int32.not_le.mp c_9) hz98_3 (tA_rdc (lo := 0) (hi := 16) (tX_10 hT0) (rg_in (rg_c (v := 1) (lo := 1) (hi := 1) (by decide)) (by decide)) (show _ = 1 by decide) (by decide)) (by decide)) (rg_c (v := 1) (lo := 1) (hi := 1) (by decide)) (by decide)) (by decide)) hT hF (fr_ste (fr_ste hLF_98 e_21 (by decide) (by decide)) e_28 (by decide) (by decide)) hP hD hS (lv_sub hl [0, 3, 4, 5] rfl)
            · refine lv_aload_n hx hb dX5_survey_157 rfl (lv_at hl 3 rfl) ?_
              refine va_get (D := D) (ci := 5) (v := .ref (a 24)) (C := RX5) (T := TX5) (N := 7) hx hb htg ig_5 hown hK hP 3 (oh_wg (by decide) (sX_3 hT)) rfl 2 (by decide) (htg _ q_170) (fun _ h9 => h9) rfl dX5_survey_158 ?_
              refine lv_iload hx hb dX5_survey_161 (lv_at hl 1 rfl) ?_
              refine lv_iconst (v := (-1)) hx hb dX5_survey_163 (by decide) ?_
              have n_30 : vp_in (ga (K98 12) ((z98_3 * 10) + 0).toNatClampNeg) 24 := (rg_in (tA_rdc (lo := 0) (hi := 23) (tX_12 t_8) (rg_in (rg_add (lo := 0) (hi := 150) (rg_mul (lo := 0) (hi := 150) (rn_ltu (u' := 15) (Int32.not_le.mp c_9) hz98_3 (tA_rdc (lo := 0) (hi := 16) (tX_10 hT0) (rg_in (rg_c (v := 1) (lo := 1) (hi := 1) (by decide)) (by decide)) (show _ = 1 by decide) (by decide)) (by decide)) (rg_c (v := 10) (lo := 10) (hi := 10) (by decide)) (by decide)) (rg_c (v := 0) (lo := 0) (hi := 0) (by decide)) (by decide)) (by decide)) (oh_col (W := 10) (rn_ltu (u' := 15) (Int32.not_le.mp c_9) hz98_3 (tA_rdc (lo := 0) (hi := 16) (tX_10 hT0) (rg_in (rg_c (v := 1) (lo := 1) (hi := 1) (by decide)) (by decide)) (show _ = 1 by decide) (by decide)) (by decide)) rfl (rg_c (v := 0) (lo := 0) (hi := 0) (by decide)) (by decide)) (by decide)) (by decide))
              refine th_iast (T := TyX a E) (Rl := fr [(9, 10), (24, 26)] [] C) hx hb hK hP hD hS 24 (by decide) (sX_24 hT) n_30 (hT.up 24 (tA_upd (tX_24 hT) tA_any)) (fr_st hF (by decide) (by decide)) dX5_survey_164 (fun C_31 H locs e_32 hT hF hP hD hS => ?_)
              have t_33 := hT
              refine lv_goto (tgt := 205) hx hb dX5_survey_165 (by decide) ?_
              refine lv_iinc (v := z98_3 + 1) (lv' := [(3, .int (z98_3 + 1)), (5, .int r_14), (4, .int (ga (K98 12) ((z98_3 * 10) + 0).toNatClampNeg)), (0, .ref (a 3)), (1, .int x1), (2, .int x2)]) hx hb dX5_survey_205 hl (k := 2) rfl (by rfl) (by decide) rfl (fun ls hl => ?_)
              refine lv_goto (tgt := 98) hx hb dX5_survey_208 (by decide) ?_
              exact ih_98 _ (hd_98 ▸ mu_up 16 (rn_ltu (u' := 15) (Int32.not_le.mp c_9) hz98_3 (tA_rdc (lo := 0) (hi := 16) (tX_10 hT0) (rg_in (rg_c (v := 1) (lo := 1) (hi := 1) (by decide)) (by decide)) (show _ = 1 by decide) (by decide)) (by decide)) (by decide)) C_31 (z98_3 + 1) _ _ ls rfl (rg_w (rg_add (lo := 1) (hi := 16) (rn_ltu (u' := 15) (Int32.not_le.mp c_9) hz98_3 (tA_rdc (lo := 0) (hi := 16) (tX_10 hT0) (rg_in (rg_c (v := 1) (lo := 1) (hi := 1) (by decide)) (by decide)) (show _ = 1 by decide) (by decide)) (by decide)) (rg_c (v := 1) (lo := 1) (hi := 1) (by decide)) (by decide)) (by decide)) hT hF (fr_ste hLF_98 e_32 (by decide) (by decide)) hP hD hS (lv_sub hl [0, 3, 4, 5] rfl)
          · refine lv_iconst (v := 2) hx hb dX5_survey_133 (by decide) ?_
            refine lv_goto (tgt := 149) hx hb dX5_survey_134 (by decide) ?_
            refine lv_istore (lv' := [(5, .int 2), (4, .int (ga (K98 12) ((z98_3 * 10) + 0).toNatClampNeg)), (3, .int z98_3), (0, .ref (a 3)), (1, .int x1), (2, .int x2)]) hx hb dX5_survey_149 hl (by decide) rfl (fun ls hl => ?_)
            refine lv_iload hx hb dX5_survey_151 (lv_at hl 0 rfl) ?_
            refine lv_iconst (v := 2) hx hb dX5_survey_153 (by decide) ?_
            refine lv_icmp_ne (tgt := 168) hx hb dX5_survey_154 (by decide) (fun c => absurd (show (2 : Int32) = 2 from by decide) c) (fun _ => ?_)
            refine lv_aload_n hx hb dX5_survey_157 rfl (lv_at hl 3 rfl) ?_
            refine va_get (D := D) (ci := 5) (v := .ref (a 24)) (C := RX5) (T := TX5) (N := 7) hx hb htg ig_5 hown hK hP 3 (oh_wg (by decide) (sX_3 hT)) rfl 2 (by decide) (htg _ q_170) (fun _ h9 => h9) rfl dX5_survey_158 ?_
            refine lv_iload hx hb dX5_survey_161 (lv_at hl 1 rfl) ?_
            refine lv_iconst (v := (-1)) hx hb dX5_survey_163 (by decide) ?_
            have n_34 : vp_in (ga (K98 12) ((z98_3 * 10) + 0).toNatClampNeg) 24 := (rg_in (tA_rdc (lo := 0) (hi := 23) (tX_12 t_8) (rg_in (rg_add (lo := 0) (hi := 150) (rg_mul (lo := 0) (hi := 150) (rn_ltu (u' := 15) (Int32.not_le.mp c_9) hz98_3 (tA_rdc (lo := 0) (hi := 16) (tX_10 hT0) (rg_in (rg_c (v := 1) (lo := 1) (hi := 1) (by decide)) (by decide)) (show _ = 1 by decide) (by decide)) (by decide)) (rg_c (v := 10) (lo := 10) (hi := 10) (by decide)) (by decide)) (rg_c (v := 0) (lo := 0) (hi := 0) (by decide)) (by decide)) (by decide)) (oh_col (W := 10) (rn_ltu (u' := 15) (Int32.not_le.mp c_9) hz98_3 (tA_rdc (lo := 0) (hi := 16) (tX_10 hT0) (rg_in (rg_c (v := 1) (lo := 1) (hi := 1) (by decide)) (by decide)) (show _ = 1 by decide) (by decide)) (by decide)) rfl (rg_c (v := 0) (lo := 0) (hi := 0) (by decide)) (by decide)) (by decide)) (by decide))
            refine th_iast (T := TyX a E) (Rl := fr [(9, 10), (24, 26)] [] C) hx hb hK hP hD hS 24 (by decide) (sX_24 hT) n_34 (hT.up 24 (tA_upd (tX_24 hT) tA_any)) (fr_st hF (by decide) (by decide)) dX5_survey_164 (fun C_35 H locs e_36 hT hF hP hD hS => ?_)
            have t_37 := hT
            refine lv_goto (tgt := 205) hx hb dX5_survey_165 (by decide) ?_
            refine lv_iinc (v := z98_3 + 1) (lv' := [(3, .int (z98_3 + 1)), (5, .int 2), (4, .int (ga (K98 12) ((z98_3 * 10) + 0).toNatClampNeg)), (0, .ref (a 3)), (1, .int x1), (2, .int x2)]) hx hb dX5_survey_205 hl (k := 2) rfl (by rfl) (by decide) rfl (fun ls hl => ?_)
            refine lv_goto (tgt := 98) hx hb dX5_survey_208 (by decide) ?_
            exact ih_98 _ (hd_98 ▸ mu_up 16 (rn_ltu (u' := 15) (Int32.not_le.mp c_9) hz98_3 (tA_rdc (lo := 0) (hi := 16) (tX_10 hT0) (rg_in (rg_c (v := 1) (lo := 1) (hi := 1) (by decide)) (by decide)) (show _ = 1 by decide) (by decide)) (by decide)) (by decide)) C_35 (z98_3 + 1) _ _ ls rfl (rg_w (rg_add (lo := 1) (hi := 16) (rn_ltu (u' := 15) (Int32.not_le.mp c_9) hz98_3 (tA_rdc (lo := 0) (hi := 16) (tX_10 hT0) (rg_in (rg_c (v := 1) (lo := 1) (hi := 1) (by decide)) (by decide)) (show _ = 1 by decide) (by decide)) (by decide)) (rg_c (v := 1) (lo := 1) (hi := 1) (by decide)) (by decide)) (by decide)) hT hF (fr_ste hLF_98 e_36 (by decide) (by decide)) hP hD hS (lv_sub hl [0, 3, 4, 5] rfl)
      exact L_98 _ K15 0 _ _ ls rfl (rg_w (rg_c (v := 0) (lo := 0) (hi := 0) (by decide)) (by decide)) hT hF fr_rf hP hD hS (lv_sub hl [0, 1, 2, 3] rfl)
    · refine lv_aload_n hx hb dX5_survey_28 rfl (lv_at hl 1 rfl) ?_
      refine va_get (D := D) (ci := 5) (v := .ref (a 1)) (C := RX5) (T := TX5) (N := 7) hx hb htg ig_5 hown hK hP 3 (oh_wg (by decide) (sX_3 hT)) rfl 0 (by decide) (htg _ q_167) (fun _ h9 => h9) rfl dX5_survey_29 ?_
      refine lv_iload_n hx hb dX5_survey_32 rfl (lv_at hl 0 rfl) ?_
      refine lv_bipush (v := 6) hx hb dX5_survey_33 (by decide) ?_
      refine tq_V (As := [.int z15_3, .int 6]) (rest := []) (ws := (oh_W 35 a K15)) ⟨hx, hb, hml, hown, htg⟩ (c_X0_ofRoad l D E G a K15 hT z15_3 (6 : Int32) (rg_w (rn_ltu (u' := 23) (Int32.not_le.mp c_7) hz15_3 (tA_rdc (lo := 0) (hi := 24) (tX_10 hT0) (rg_in (rg_c (v := 0) (lo := 0) (hi := 0) (by decide)) (by decide)) (show _ = 0 by decide) (by decide)) (by decide)) (by decide)) (rg_w (rg_c (v := 6) (lo := 6) (hi := 6) (by decide)) (by decide))) (cwV 2 htg (oh_gV q_755 q_480 q_481 q_67 q_482) rfl rfl rfl pdVX0_ofRoad ⟨Nat.le_of_ble_eq_true rfl, Nat.le_of_ble_eq_true rfl⟩) hK hP hG hS (va_recv hK hP (ci := 0) (q0 := 1) rfl (oh_wg (by decide) (sX_1 hT))) rfl hl.1 rfl (Nat.le_of_ble_eq_true rfl) dX5_survey_35 ⟨Nat.le_of_ble_eq_true rfl, Nat.le_of_ble_eq_true rfl⟩ (fun r_38 hq_39 => ?_)
      subst hq_39
      refine lv_if_ne (tgt := 64) hx hb dX5_survey_38 (by decide) (fun (c_40 : ¬ ((ga (K15 11) ((z15_3 * 7) + 6).toNatClampNeg) = 0)) => ?_) (fun (c_40 : (ga (K15 11) ((z15_3 * 7) + 6).toNatClampNeg) = 0) => ?_)
      · refine lv_iconst (v := 0) hx hb dX5_survey_64 (by decide) ?_
        refine lv_istore (lv' := [(4, .int 0), (3, .int z15_3), (0, .ref (a 3)), (1, .int x1), (2, .int x2)]) hx hb dX5_survey_65 hl (by decide) rfl (fun ls hl => ?_)
        refine lv_aload_n hx hb dX5_survey_67 rfl (lv_at hl 2 rfl) ?_
        refine va_get (D := D) (ci := 5) (v := .ref (a 24)) (C := RX5) (T := TX5) (N := 7) hx hb htg ig_5 hown hK hP 3 (oh_wg (by decide) (sX_3 hT)) rfl 2 (by decide) (htg _ q_170) (fun _ h9 => h9) rfl dX5_survey_68 ?_
        refine lv_iload_n hx hb dX5_survey_71 rfl (lv_at hl 1 rfl) ?_
        refine lv_iload hx hb dX5_survey_72 (lv_at hl 0 rfl) ?_
        refine lv_if_eq (tgt := 81) hx hb dX5_survey_74 (by decide) (fun _ => ?_) (fun c => absurd (show (0 : Int32) = 0 from by decide) c)
        refine lv_iconst (v := (-1)) hx hb dX5_survey_81 (by decide) ?_
        have n_41 : vp_in z15_3 24 := (rg_in (rn_ltu (u' := 23) (Int32.not_le.mp c_7) hz15_3 (tA_rdc (lo := 0) (hi := 24) (tX_10 hT0) (rg_in (rg_c (v := 0) (lo := 0) (hi := 0) (by decide)) (by decide)) (show _ = 0 by decide) (by decide)) (by decide)) (by decide))
        refine th_iast (T := TyX a E) (Rl := fr [(9, 10), (24, 26)] [] C) hx hb hK hP hD hS 24 (by decide) (sX_24 hT) n_41 (hT.up 24 (tA_upd (tX_24 hT) tA_any)) (fr_st hF (by decide) (by decide)) dX5_survey_82 (fun C_42 H locs e_43 hT hF hP hD hS => ?_)
        have t_44 := hT
        refine lv_aload_n hx hb dX5_survey_83 rfl (lv_at hl 2 rfl) ?_
        refine va_get (D := D) (ci := 5) (v := .ref (a 25)) (C := RX5) (T := TX5) (N := 7) hx hb htg ig_5 hown hK hP 3 (oh_wg (by decide) (sX_3 hT)) rfl 3 (by decide) (htg _ q_172) (fun _ h9 => h9) rfl dX5_survey_84 ?_
        refine lv_iload_n hx hb dX5_survey_87 rfl (lv_at hl 1 rfl) ?_
        refine lv_iconst (v := 0) hx hb dX5_survey_88 (by decide) ?_
        have n_45 : vp_in z15_3 24 := (rg_in (rn_ltu (u' := 23) (Int32.not_le.mp c_7) hz15_3 (tA_rdc (lo := 0) (hi := 24) (tX_10 hT0) (rg_in (rg_c (v := 0) (lo := 0) (hi := 0) (by decide)) (by decide)) (show _ = 0 by decide) (by decide)) (by decide)) (by decide))
        refine th_iast (T := TyX a E) (Rl := fr [(9, 10), (24, 26)] [] C) hx hb hK hP hD hS 25 (by decide) (sX_25 hT) n_45 (hT.up 25 (tA_upd (tX_25 hT) tA_any)) (fr_st hF (by decide) (by decide)) dX5_survey_89 (fun C_46 H locs e_47 hT hF hP hD hS => ?_)
        have t_48 := hT
        refine lv_iinc (v := z15_3 + 1) (lv' := [(3, .int (z15_3 + 1)), (4, .int 0), (0, .ref (a 3)), (1, .int x1), (2, .int x2)]) hx hb dX5_survey_90 hl (k := 1) rfl (by rfl) (by decide) rfl (fun ls hl => ?_)
        refine lv_goto (tgt := 15) hx hb dX5_survey_93 (by decide) ?_
        exact ih_15 _ (hd_15 ▸ mu_up 24 (rn_ltu (u' := 23) (Int32.not_le.mp c_7) hz15_3 (tA_rdc (lo := 0) (hi := 24) (tX_10 hT0) (rg_in (rg_c (v := 0) (lo := 0) (hi := 0) (by decide)) (by decide)) (show _ = 0 by decide) (by decide)) (by decide)) (by decide)) C_46 (z15_3 + 1) _ _ ls rfl (rg_w (rg_add (lo := 1) (hi := 24) (rn_ltu (u' := 23) (Int32.not_le.mp c_7) hz15_3 (tA_rdc (lo := 0) (hi := 24) (tX_10 hT0) (rg_in (rg_c (v := 0) (lo := 0) (hi := 0) (by decide)) (by decide)) (show _ = 0 by decide) (by decide)) (by decide)) (rg_c (v := 1) (lo := 1) (hi := 1) (by decide)) (by decide)) (by decide)) hT hF (fr_ste (fr_ste hLF_15 e_43 (by decide) (by decide)) e_47 (by decide) (by decide)) hP hD hS (lv_sub hl [0, 2, 3, 4] rfl)
      · refine lv_aload_n hx hb dX5_survey_41 rfl (lv_at hl 1 rfl) ?_
        refine va_get (D := D) (ci := 5) (v := .ref (a 1)) (C := RX5) (T := TX5) (N := 7) hx hb htg ig_5 hown hK hP 3 (oh_wg (by decide) (sX_3 hT)) rfl 0 (by decide) (htg _ q_167) (fun _ h9 => h9) rfl dX5_survey_42 ?_
        refine lv_iload_n hx hb dX5_survey_45 rfl (lv_at hl 0 rfl) ?_
        refine lv_iconst (v := 4) hx hb dX5_survey_46 (by decide) ?_
        refine tq_V (As := [.int z15_3, .int 4]) (rest := []) (ws := (oh_W 35 a K15)) ⟨hx, hb, hml, hown, htg⟩ (c_X0_ofRoad l D E G a K15 hT z15_3 (4 : Int32) (rg_w (rn_ltu (u' := 23) (Int32.not_le.mp c_7) hz15_3 (tA_rdc (lo := 0) (hi := 24) (tX_10 hT0) (rg_in (rg_c (v := 0) (lo := 0) (hi := 0) (by decide)) (by decide)) (show _ = 0 by decide) (by decide)) (by decide)) (by decide)) (rg_w (rg_c (v := 4) (lo := 4) (hi := 4) (by decide)) (by decide))) (cwV 2 htg (oh_gV q_755 q_480 q_481 q_67 q_482) rfl rfl rfl pdVX0_ofRoad ⟨Nat.le_of_ble_eq_true rfl, Nat.le_of_ble_eq_true rfl⟩) hK hP hG hS (va_recv hK hP (ci := 0) (q0 := 1) rfl (oh_wg (by decide) (sX_1 hT))) rfl hl.1 rfl (Nat.le_of_ble_eq_true rfl) dX5_survey_47 ⟨Nat.le_of_ble_eq_true rfl, Nat.le_of_ble_eq_true rfl⟩ (fun r_49 hq_50 => ?_)
        subst hq_50
        refine lv_aload_n hx hb dX5_survey_50 rfl (lv_at hl 1 rfl) ?_
        refine va_get (D := D) (ci := 5) (v := .ref (a 9)) (C := RX5) (T := TX5) (N := 7) hx hb htg ig_5 hown hK hP 3 (oh_wg (by decide) (sX_3 hT)) rfl 1 (by decide) (htg _ q_168) (fun _ h9 => h9) rfl dX5_survey_51 ?_
        refine va_get (D := D) (ci := 1) (v := .int (gi (C_2 9) 2)) (C := RX1) (T := TX1) (N := 5) hx hb htg ig_1 hown hK hP 9 (oh_wg (by decide) (sX_9 hT)) rfl 2 (by decide) (htg _ q_148) (fun _ h9 => h9) (oh_fv (c := K15 9) (j := 2) rfl (congrArg (fun z => gi z 2) (hLF_15.1 9 rfl (by decide)))) dX5_survey_54 ?_
        refine lv_icmp_lt (tgt := 64) hx hb dX5_survey_57 (by decide) (fun (c_51 : (ga (K15 11) ((z15_3 * 7) + 4).toNatClampNeg) < (gi (C_2 9) 2)) => ?_) (fun (c_51 : ¬ ((ga (K15 11) ((z15_3 * 7) + 4).toNatClampNeg) < (gi (C_2 9) 2))) => ?_)
        · refine lv_iconst (v := 0) hx hb dX5_survey_64 (by decide) ?_
          refine lv_istore (lv' := [(4, .int 0), (3, .int z15_3), (0, .ref (a 3)), (1, .int x1), (2, .int x2)]) hx hb dX5_survey_65 hl (by decide) rfl (fun ls hl => ?_)
          refine lv_aload_n hx hb dX5_survey_67 rfl (lv_at hl 2 rfl) ?_
          refine va_get (D := D) (ci := 5) (v := .ref (a 24)) (C := RX5) (T := TX5) (N := 7) hx hb htg ig_5 hown hK hP 3 (oh_wg (by decide) (sX_3 hT)) rfl 2 (by decide) (htg _ q_170) (fun _ h9 => h9) rfl dX5_survey_68 ?_
          refine lv_iload_n hx hb dX5_survey_71 rfl (lv_at hl 1 rfl) ?_
          refine lv_iload hx hb dX5_survey_72 (lv_at hl 0 rfl) ?_
          refine lv_if_eq (tgt := 81) hx hb dX5_survey_74 (by decide) (fun _ => ?_) (fun c => absurd (show (0 : Int32) = 0 from by decide) c)
          refine lv_iconst (v := (-1)) hx hb dX5_survey_81 (by decide) ?_
          have n_52 : vp_in z15_3 24 := (rg_in (rn_ltu (u' := 23) (Int32.not_le.mp c_7) hz15_3 (tA_rdc (lo := 0) (hi := 24) (tX_10 hT0) (rg_in (rg_c (v := 0) (lo := 0) (hi := 0) (by decide)) (by decide)) (show _ = 0 by decide) (by decide)) (by decide)) (by decide))
          refine th_iast (T := TyX a E) (Rl := fr [(9, 10), (24, 26)] [] C) hx hb hK hP hD hS 24 (by decide) (sX_24 hT) n_52 (hT.up 24 (tA_upd (tX_24 hT) tA_any)) (fr_st hF (by decide) (by decide)) dX5_survey_82 (fun C_53 H locs e_54 hT hF hP hD hS => ?_)
          have t_55 := hT
          refine lv_aload_n hx hb dX5_survey_83 rfl (lv_at hl 2 rfl) ?_
          refine va_get (D := D) (ci := 5) (v := .ref (a 25)) (C := RX5) (T := TX5) (N := 7) hx hb htg ig_5 hown hK hP 3 (oh_wg (by decide) (sX_3 hT)) rfl 3 (by decide) (htg _ q_172) (fun _ h9 => h9) rfl dX5_survey_84 ?_
          refine lv_iload_n hx hb dX5_survey_87 rfl (lv_at hl 1 rfl) ?_
          refine lv_iconst (v := 0) hx hb dX5_survey_88 (by decide) ?_
          have n_56 : vp_in z15_3 24 := (rg_in (rn_ltu (u' := 23) (Int32.not_le.mp c_7) hz15_3 (tA_rdc (lo := 0) (hi := 24) (tX_10 hT0) (rg_in (rg_c (v := 0) (lo := 0) (hi := 0) (by decide)) (by decide)) (show _ = 0 by decide) (by decide)) (by decide)) (by decide))
          refine th_iast (T := TyX a E) (Rl := fr [(9, 10), (24, 26)] [] C) hx hb hK hP hD hS 25 (by decide) (sX_25 hT) n_56 (hT.up 25 (tA_upd (tX_25 hT) tA_any)) (fr_st hF (by decide) (by decide)) dX5_survey_89 (fun C_57 H locs e_58 hT hF hP hD hS => ?_)
          have t_59 := hT
          refine lv_iinc (v := z15_3 + 1) (lv' := [(3, .int (z15_3 + 1)), (4, .int 0), (0, .ref (a 3)), (1, .int x1), (2, .int x2)]) hx hb dX5_survey_90 hl (k := 1) rfl (by rfl) (by decide) rfl (fun ls hl => ?_)
          refine lv_goto (tgt := 15) hx hb dX5_survey_93 (by decide) ?_
          exact ih_15 _ (hd_15 ▸ mu_up 24 (rn_ltu (u' := 23) (Int32.not_le.mp c_7) hz15_3 (tA_rdc (lo := 0) (hi := 24) (tX_10 hT0) (rg_in (rg_c (v := 0) (lo := 0) (hi := 0) (by decide)) (by decide)) (show _ = 0 by decide) (by decide)) (by decide)) (by decide)) C_57 (z15_3 + 1) _ _ ls rfl (rg_w (rg_add (lo := 1) (hi := 24) (rn_ltu (u' := 23) (Int32.not_le.mp c_7) hz15_3 (tA_rdc (lo := 0) (hi := 24) (tX_10 hT0) (rg_in (rg_c (v := 0) (lo := 0) (hi := 0) (by decide)) (by decide)) (show _ = 0 by decide) (by decide)) (by decide)) (rg_c (v := 1) (lo := 1) (hi := 1) (by decide)) (by decide)) (by decide)) hT hF (fr_ste (fr_ste hLF_15 e_54 (by decide) (by decide)) e_58 (by decide) (by decide)) hP hD hS (lv_sub hl [0, 2, 3, 4] rfl)
        · refine lv_iconst (v := 1) hx hb dX5_survey_60 (by decide) ?_
          refine lv_goto (tgt := 65) hx hb dX5_survey_61 (by decide) ?_
          refine lv_istore (lv' := [(4, .int 1), (3, .int z15_3), (0, .ref (a 3)), (1, .int x1), (2, .int x2)]) hx hb dX5_survey_65 hl (by decide) rfl (fun ls hl => ?_)
          refine lv_aload_n hx hb dX5_survey_67 rfl (lv_at hl 2 rfl) ?_
          refine va_get (D := D) (ci := 5) (v := .ref (a 24)) (C := RX5) (T := TX5) (N := 7) hx hb htg ig_5 hown hK hP 3 (oh_wg (by decide) (sX_3 hT)) rfl 2 (by decide) (htg _ q_170) (fun _ h9 => h9) rfl dX5_survey_68 ?_
          refine lv_iload_n hx hb dX5_survey_71 rfl (lv_at hl 1 rfl) ?_
          refine lv_iload hx hb dX5_survey_72 (lv_at hl 0 rfl) ?_
          refine lv_if_eq (tgt := 81) hx hb dX5_survey_74 (by decide) (fun c => absurd c (show ¬ ((1 : Int32) = 0) from by decide)) (fun _ => ?_)
          refine lv_iconst (v := 0) hx hb dX5_survey_77 (by decide) ?_
          refine lv_goto (tgt := 82) hx hb dX5_survey_78 (by decide) ?_
          have n_60 : vp_in z15_3 24 := (rg_in (rn_ltu (u' := 23) (Int32.not_le.mp c_7) hz15_3 (tA_rdc (lo := 0) (hi := 24) (tX_10 hT0) (rg_in (rg_c (v := 0) (lo := 0) (hi := 0) (by decide)) (by decide)) (show _ = 0 by decide) (by decide)) (by decide)) (by decide))
          refine th_iast (T := TyX a E) (Rl := fr [(9, 10), (24, 26)] [] C) hx hb hK hP hD hS 24 (by decide) (sX_24 hT) n_60 (hT.up 24 (tA_upd (tX_24 hT) tA_any)) (fr_st hF (by decide) (by decide)) dX5_survey_82 (fun C_61 H locs e_62 hT hF hP hD hS => ?_)
          have t_63 := hT
          refine lv_aload_n hx hb dX5_survey_83 rfl (lv_at hl 2 rfl) ?_
          refine va_get (D := D) (ci := 5) (v := .ref (a 25)) (C := RX5) (T := TX5) (N := 7) hx hb htg ig_5 hown hK hP 3 (oh_wg (by decide) (sX_3 hT)) rfl 3 (by decide) (htg _ q_172) (fun _ h9 => h9) rfl dX5_survey_84 ?_
          refine lv_iload_n hx hb dX5_survey_87 rfl (lv_at hl 1 rfl) ?_
          refine lv_iconst (v := 0) hx hb dX5_survey_88 (by decide) ?_
          have n_64 : vp_in z15_3 24 := (rg_in (rn_ltu (u' := 23) (Int32.not_le.mp c_7) hz15_3 (tA_rdc (lo := 0) (hi := 24) (tX_10 hT0) (rg_in (rg_c (v := 0) (lo := 0) (hi := 0) (by decide)) (by decide)) (show _ = 0 by decide) (by decide)) (by decide)) (by decide))
          refine th_iast (T := TyX a E) (Rl := fr [(9, 10), (24, 26)] [] C) hx hb hK hP hD hS 25 (by decide) (sX_25 hT) n_64 (hT.up 25 (tA_upd (tX_25 hT) tA_any)) (fr_st hF (by decide) (by decide)) dX5_survey_89 (fun C_65 H locs e_66 hT hF hP hD hS => ?_)
          have t_67 := hT
          refine lv_iinc (v := z15_3 + 1) (lv' := [(3, .int (z15_3 + 1)), (4, .int 1), (0, .ref (a 3)), (1, .int x1), (2, .int x2)]) hx hb dX5_survey_90 hl (k := 1) rfl (by rfl) (by decide) rfl (fun ls hl => ?_)
          refine lv_goto (tgt := 15) hx hb dX5_survey_93 (by decide) ?_
          exact ih_15 _ (hd_15 ▸ mu_up 24 (rn_ltu (u' := 23) (Int32.not_le.mp c_7) hz15_3 (tA_rdc (lo := 0) (hi := 24) (tX_10 hT0) (rg_in (rg_c (v := 0) (lo := 0) (hi := 0) (by decide)) (by decide)) (show _ = 0 by decide) (by decide)) (by decide)) (by decide)) C_65 (z15_3 + 1) _ _ ls rfl (rg_w (rg_add (lo := 1) (hi := 24) (rn_ltu (u' := 23) (Int32.not_le.mp c_7) hz15_3 (tA_rdc (lo := 0) (hi := 24) (tX_10 hT0) (rg_in (rg_c (v := 0) (lo := 0) (hi := 0) (by decide)) (by decide)) (show _ = 0 by decide) (by decide)) (by decide)) (rg_c (v := 1) (lo := 1) (hi := 1) (by decide)) (by decide)) (by decide)) hT hF (fr_ste (fr_ste hLF_15 e_62 (by decide) (by decide)) e_66 (by decide) (by decide)) hP hD hS (lv_sub hl [0, 2, 3, 4] rfl)
  exact L_15 _ C_2 0 _ _ ls rfl (rg_w (rg_c (v := 0) (lo := 0) (hi := 0) (by decide)) (by decide)) hT hF fr_rf hP hD hS (lv_sub hl [0, 1, 2, 3] rfl)

set_option maxHeartbeats 4000000 in
set_option maxRecDepth 100000 in
theorem c_X5_engines (l : Launch) (D : va_G) (E : Nat → ClassId) (G : Nat → Nat) (a : Nat → Nat) (C : Nat → va_E) (hT : TyX a E C) (x1 : Int32) (hx1 : rg x1 0 23) : Met l yX5_engines (oh_w yX5_engines cX5_engines 2 (some .int)) ({ frames := 1, cells := 0, slots := 0, locals := 22 }) (oh_Pp D E G [.ref (a 3), .int x1] (oh_W 35 a C)) (vp_Si (fun r => True)) 0 0 (fun _ => False) := by
  refine Met.ofW (cc := cX5_engines) (maxL := 2) (ret := (some .int)) (by decide) rfl ?_
  intro p e s m args below meth c s₁ B hml hv
  obtain ⟨rfl, hP, hK, hG⟩ := hv
  have hx := B.exec
  have hb := B.bytes
  have hr := B.returns
  have hts := atoms_spec (ws := (oh_w yX5_engines cX5_engines 2 (some .int))) B.pre
  have htg : ∀ w ∈ oh_t, w.before _ s = true := fun w h => hts w (List.mem_cons_of_mem _ h)
  have hown : s.vm.findClass RX5 = some m.cls := findClass_of_methodNamed B.named
  have hlocks := B.notSynchronized
  have hT0 := hT
  have hS : va_S (fun _ => False) s.heap s.heap [] := va_S.rf
  have hl := lv_entry ([.ref (a 3), .int x1]) (n := 2) (Nat.le_of_ble_eq_true rfl)
  rw [lg_entry_eq]
  generalize (lg_sl ([.ref (a 3), .int x1]) ++ List.replicate (2 - (lg_sl ([.ref (a 3), .int x1])).length) Slot.unset).toArray = ls at hl ⊢
  have hl : lv_has ls 2 [(0, .ref (a 3)), (1, .int x1)] := hl
  refine oh_genQ (fun Q hQ => ?_)
  refine lv_iconst (v := 1) hx hb dX5_engines_0 (by decide) ?_
  refine lv_aload_n hx hb dX5_engines_1 rfl (lv_at hl 0 rfl) ?_
  refine va_get (D := D) (ci := 5) (v := .ref (a 1)) (C := RX5) (T := TX5) (N := 7) hx hb htg ig_5 hown hK hP 3 (oh_wg (by decide) (sX_3 hT)) rfl 0 (by decide) (htg _ q_167) (fun _ h9 => h9) rfl dX5_engines_2 ?_
  refine lv_iload_n hx hb dX5_engines_5 rfl (lv_at hl 1 rfl) ?_
  refine lv_iconst (v := 3) hx hb dX5_engines_6 (by decide) ?_
  refine tq_V (As := [.int x1, .int 3]) (rest := [.int 1]) (ws := (oh_W 35 a C)) ⟨hx, hb, hml, hown, htg⟩ (c_X0_ofRoad l D E G a C hT x1 (3 : Int32) (rg_w hx1 (by decide)) (rg_w (rg_c (v := 3) (lo := 3) (hi := 3) (by decide)) (by decide))) (cwV 2 htg (oh_gV q_755 q_480 q_481 q_67 q_482) rfl rfl rfl pdVX0_ofRoad ⟨Nat.le_of_ble_eq_true rfl, Nat.le_of_ble_eq_true rfl⟩) hK hP hG hS (va_recv hK hP (ci := 0) (q0 := 1) rfl (oh_wg (by decide) (sX_1 hT))) rfl hl.1 rfl (Nat.le_of_ble_eq_true rfl) dX5_engines_7 ⟨Nat.le_of_ble_eq_true rfl, Nat.le_of_ble_eq_true rfl⟩ (fun r_1 hq_2 => ?_)
  subst hq_2
  refine lv_aload_n hx hb dX5_engines_10 rfl (lv_at hl 0 rfl) ?_
  refine va_get (D := D) (ci := 5) (v := .ref (a 9)) (C := RX5) (T := TX5) (N := 7) hx hb htg ig_5 hown hK hP 3 (oh_wg (by decide) (sX_3 hT)) rfl 1 (by decide) (htg _ q_168) (fun _ h9 => h9) rfl dX5_engines_11 ?_
  refine va_get (D := D) (ci := 1) (v := .int (gi (C 9) 3)) (C := RX1) (T := TX1) (N := 5) hx hb htg ig_1 hown hK hP 9 (oh_wg (by decide) (sX_9 hT)) rfl 3 (by decide) (htg _ q_150) (fun _ h9 => h9) rfl dX5_engines_14 ?_
  refine lv_imul hx hb dX5_engines_17 ?_
  refine lv_bipush (v := 100) hx hb dX5_engines_18 (by decide) ?_
  refine lv_idiv hx hb dX5_engines_20 (by decide) ?_
  refine lv_iadd hx hb dX5_engines_21 ?_
  rw [hQ]
  exact W.iret (v := 1 + (((ga (C 11) ((x1 * 7) + 3).toNatClampNeg) * (gi (C 9) 3)) / 100)) hx hb hr (fun t ht hW => ⟨1 + (((ga (C 11) ((x1 * 7) + 3).toNatClampNeg) * (gi (C 9) 3)) / 100), rfl, trivial, ht⟩) (fun q h => by cases h) dX5_engines_22

set_option maxHeartbeats 4000000 in
set_option maxRecDepth 100000 in
theorem c_X5_coinOf (l : Launch) (D : va_G) (E : Nat → ClassId) (G : Nat → Nat) (a : Nat → Nat) (C : Nat → va_E) (hT : TyX a E C) (x1 : Int32) (x2 : Int32) (hx1 : rg x1 0 23) : Met l yX5_coinOf (oh_w yX5_coinOf cX5_coinOf 3 (some .int)) ({ frames := 2, cells := 0, slots := 0, locals := 43 }) (oh_Pp D E G [.ref (a 3), .int x1, .int x2] (oh_W 35 a C)) (vp_Si (fun r => True)) 0 0 (fun _ => False) := by
  refine Met.ofW (cc := cX5_coinOf) (maxL := 3) (ret := (some .int)) (by decide) rfl ?_
  intro p e s m args below meth c s₁ B hml hv
  obtain ⟨rfl, hP, hK, hG⟩ := hv
  have hx := B.exec
  have hb := B.bytes
  have hr := B.returns
  have hts := atoms_spec (ws := (oh_w yX5_coinOf cX5_coinOf 3 (some .int))) B.pre
  have htg : ∀ w ∈ oh_t, w.before _ s = true := fun w h => hts w (List.mem_cons_of_mem _ h)
  have hown : s.vm.findClass RX5 = some m.cls := findClass_of_methodNamed B.named
  have hlocks := B.notSynchronized
  have hT0 := hT
  have hS : va_S (fun _ => False) s.heap s.heap [] := va_S.rf
  have hl := lv_entry ([.ref (a 3), .int x1, .int x2]) (n := 3) (Nat.le_of_ble_eq_true rfl)
  rw [lg_entry_eq]
  generalize (lg_sl ([.ref (a 3), .int x1, .int x2]) ++ List.replicate (3 - (lg_sl ([.ref (a 3), .int x1, .int x2])).length) Slot.unset).toArray = ls at hl ⊢
  have hl : lv_has ls 3 [(0, .ref (a 3)), (1, .int x1), (2, .int x2)] := hl
  refine oh_genQ (fun Q hQ => ?_)
  refine lv_iload_n hx hb dX5_coinOf_0 rfl (lv_at hl 2 rfl) ?_
  refine lv_aload_n hx hb dX5_coinOf_1 rfl (lv_at hl 0 rfl) ?_
  refine va_get (D := D) (ci := 5) (v := .ref (a 1)) (C := RX5) (T := TX5) (N := 7) hx hb htg ig_5 hown hK hP 3 (oh_wg (by decide) (sX_3 hT)) rfl 0 (by decide) (htg _ q_167) (fun _ h9 => h9) rfl dX5_coinOf_2 ?_
  refine va_get (D := D) (ci := 0) (v := .ref (a 15)) (C := RX0) (T := TX0) (N := 8) hx hb htg ig_0 hown hK hP 1 (oh_wg (by decide) (sX_1 hT)) rfl 5 (by decide) (htg _ q_109) (fun _ h9 => h9) rfl dX5_coinOf_5 ?_
  refine lv_iconst (v := 1) hx hb dX5_coinOf_8 (by decide) ?_
  refine th_iald hx hb hK hP 15 (by decide) (sX_15 hT) (rg_in (rg_c (v := 1) (lo := 1) (hi := 1) (by decide)) (by decide)) dX5_coinOf_9 ?_
  refine lv_imul hx hb dX5_coinOf_10 ?_
  refine lv_aload_n hx hb dX5_coinOf_11 rfl (lv_at hl 0 rfl) ?_
  refine va_get (D := D) (ci := 5) (v := .ref (a 1)) (C := RX5) (T := TX5) (N := 7) hx hb htg ig_5 hown hK hP 3 (oh_wg (by decide) (sX_3 hT)) rfl 0 (by decide) (htg _ q_167) (fun _ h9 => h9) rfl dX5_coinOf_12 ?_
  refine lv_iload_n hx hb dX5_coinOf_15 rfl (lv_at hl 1 rfl) ?_
  refine lv_iconst (v := 2) hx hb dX5_coinOf_16 (by decide) ?_
  refine tq_V (As := [.int x1, .int 2]) (rest := [.int (x2 * (ga (C 15) ((1 : Int32)).toNatClampNeg))]) (ws := (oh_W 35 a C)) ⟨hx, hb, hml, hown, htg⟩ (c_X0_ofRoad l D E G a C hT x1 (2 : Int32) (rg_w hx1 (by decide)) (rg_w (rg_c (v := 2) (lo := 2) (hi := 2) (by decide)) (by decide))) (cwV 2 htg (oh_gV q_755 q_480 q_481 q_67 q_482) rfl rfl rfl pdVX0_ofRoad ⟨Nat.le_of_ble_eq_true rfl, Nat.le_of_ble_eq_true rfl⟩) hK hP hG hS (va_recv hK hP (ci := 0) (q0 := 1) rfl (oh_wg (by decide) (sX_1 hT))) rfl hl.1 rfl (Nat.le_of_ble_eq_true rfl) dX5_coinOf_17 ⟨Nat.le_of_ble_eq_true rfl, Nat.le_of_ble_eq_true rfl⟩ (fun r_1 hq_2 => ?_)
  subst hq_2
  refine lv_imul hx hb dX5_coinOf_20 ?_
  refine lv_aload_n hx hb dX5_coinOf_21 rfl (lv_at hl 0 rfl) ?_
  refine lv_iload_n hx hb dX5_coinOf_22 rfl (lv_at hl 1 rfl) ?_
  refine tq_V (As := [.int x1]) (rest := [.int ((x2 * (ga (C 15) ((1 : Int32)).toNatClampNeg)) * (ga (C 11) ((x1 * 7) + 2).toNatClampNeg))]) (ws := (oh_W 35 a C)) ⟨hx, hb, hml, hown, htg⟩ (c_X5_engines l D E G a C hT x1 (rg_w hx1 (by decide))) (cwV 1 htg (oh_gV q_766 q_759 q_760 q_68 q_761) rfl rfl rfl pdVX5_engines ⟨Nat.le_of_ble_eq_true rfl, Nat.le_of_ble_eq_true rfl⟩) hK hP hG hS (va_recv hK hP (ci := 5) (q0 := 3) rfl (oh_wg (by decide) (sX_3 hT))) rfl hl.1 rfl (Nat.le_of_ble_eq_true rfl) dX5_coinOf_23 ⟨Nat.le_of_ble_eq_true rfl, Nat.le_of_ble_eq_true rfl⟩ (fun r_3 hq_4 => ?_)
  refine lv_imul hx hb dX5_coinOf_26 ?_
  refine lv_aload_n hx hb dX5_coinOf_27 rfl (lv_at hl 0 rfl) ?_
  refine va_get (D := D) (ci := 5) (v := .ref (a 25)) (C := RX5) (T := TX5) (N := 7) hx hb htg ig_5 hown hK hP 3 (oh_wg (by decide) (sX_3 hT)) rfl 3 (by decide) (htg _ q_172) (fun _ h9 => h9) rfl dX5_coinOf_28 ?_
  refine lv_iload_n hx hb dX5_coinOf_31 rfl (lv_at hl 1 rfl) ?_
  have n_5 : vp_in x1 24 := (rg_in hx1 (by decide))
  refine th_iald hx hb hK hP 25 (by decide) (sX_25 hT) n_5 dX5_coinOf_32 ?_
  refine lv_iadd hx hb dX5_coinOf_33 ?_
  rw [hQ]
  exact W.iret (v := (((x2 * (ga (C 15) ((1 : Int32)).toNatClampNeg)) * (ga (C 11) ((x1 * 7) + 2).toNatClampNeg)) * r_3) + (ga (C 25) (x1).toNatClampNeg)) hx hb hr (fun t ht hW => ⟨(((x2 * (ga (C 15) ((1 : Int32)).toNatClampNeg)) * (ga (C 11) ((x1 * 7) + 2).toNatClampNeg)) * r_3) + (ga (C 25) (x1).toNatClampNeg), rfl, trivial, ht⟩) (fun q h => by cases h) dX5_coinOf_34

set_option maxHeartbeats 4000000 in
set_option maxRecDepth 100000 in
theorem c_X5_daysOf (l : Launch) (D : va_G) (E : Nat → ClassId) (G : Nat → Nat) (a : Nat → Nat) (C : Nat → va_E) (hT : TyX a E C) (x1 : Int32) (hx1 : rg x1 0 23) : Met l yX5_daysOf (oh_w yX5_daysOf cX5_daysOf 2 (some .int)) ({ frames := 1, cells := 0, slots := 0, locals := 22 }) (oh_Pp D E G [.ref (a 3), .int x1] (oh_W 35 a C)) (vp_Si (fun r => True)) 0 0 (fun _ => False) := by
  refine Met.ofW (cc := cX5_daysOf) (maxL := 2) (ret := (some .int)) (by decide) rfl ?_
  intro p e s m args below meth c s₁ B hml hv
  obtain ⟨rfl, hP, hK, hG⟩ := hv
  have hx := B.exec
  have hb := B.bytes
  have hr := B.returns
  have hts := atoms_spec (ws := (oh_w yX5_daysOf cX5_daysOf 2 (some .int))) B.pre
  have htg : ∀ w ∈ oh_t, w.before _ s = true := fun w h => hts w (List.mem_cons_of_mem _ h)
  have hown : s.vm.findClass RX5 = some m.cls := findClass_of_methodNamed B.named
  have hlocks := B.notSynchronized
  have hT0 := hT
  have hS : va_S (fun _ => False) s.heap s.heap [] := va_S.rf
  have hl := lv_entry ([.ref (a 3), .int x1]) (n := 2) (Nat.le_of_ble_eq_true rfl)
  rw [lg_entry_eq]
  generalize (lg_sl ([.ref (a 3), .int x1]) ++ List.replicate (2 - (lg_sl ([.ref (a 3), .int x1])).length) Slot.unset).toArray = ls at hl ⊢
  have hl : lv_has ls 2 [(0, .ref (a 3)), (1, .int x1)] := hl
  refine oh_genQ (fun Q hQ => ?_)
  refine lv_aload_n hx hb dX5_daysOf_0 rfl (lv_at hl 0 rfl) ?_
  refine va_get (D := D) (ci := 5) (v := .ref (a 1)) (C := RX5) (T := TX5) (N := 7) hx hb htg ig_5 hown hK hP 3 (oh_wg (by decide) (sX_3 hT)) rfl 0 (by decide) (htg _ q_167) (fun _ h9 => h9) rfl dX5_daysOf_1 ?_
  refine lv_iload_n hx hb dX5_daysOf_4 rfl (lv_at hl 1 rfl) ?_
  refine lv_iconst (v := 2) hx hb dX5_daysOf_5 (by decide) ?_
  refine tq_V (As := [.int x1, .int 2]) (rest := []) (ws := (oh_W 35 a C)) ⟨hx, hb, hml, hown, htg⟩ (c_X0_ofRoad l D E G a C hT x1 (2 : Int32) (rg_w hx1 (by decide)) (rg_w (rg_c (v := 2) (lo := 2) (hi := 2) (by decide)) (by decide))) (cwV 2 htg (oh_gV q_755 q_480 q_481 q_67 q_482) rfl rfl rfl pdVX0_ofRoad ⟨Nat.le_of_ble_eq_true rfl, Nat.le_of_ble_eq_true rfl⟩) hK hP hG hS (va_recv hK hP (ci := 0) (q0 := 1) rfl (oh_wg (by decide) (sX_1 hT))) rfl hl.1 rfl (Nat.le_of_ble_eq_true rfl) dX5_daysOf_6 ⟨Nat.le_of_ble_eq_true rfl, Nat.le_of_ble_eq_true rfl⟩ (fun r_1 hq_2 => ?_)
  subst hq_2
  refine lv_bipush (v := 10) hx hb dX5_daysOf_9 (by decide) ?_
  refine tq_SN (As := [.int (ga (C 11) ((x1 * 7) + 2).toNatClampNeg), .int 10]) (rest := []) (ws := []) ⟨hx, hb, hml, hown, htg⟩ (c_X6_roundedUp l D E G (ga (C 11) ((x1 * 7) + 2).toNatClampNeg) (10 : Int32)) ⟨va_cnB (y := yX6_roundedUp) 2 htg (oh_gW q_718) rfl rfl rfl (hG.1 ("OneHeavyLoad$Ways", 75, ⟨"OneHeavyLoad", "roundedUp", "(II)I"⟩, "OneHeavyLoad") (List.mem_of_getElem? (i := 5) rfl)) (htg _ q_66) pdX6_roundedUp ⟨Nat.le_of_ble_eq_true rfl, Nat.le_of_ble_eq_true rfl⟩, htg _ q_717, trivial⟩ hK va_nil hG hS rfl hl.1 rfl (Nat.le_of_ble_eq_true rfl) dX5_daysOf_11 ⟨Nat.le_of_ble_eq_true rfl, Nat.le_of_ble_eq_true rfl⟩ (fun r_3 hq_4 => ?_)
  refine lv_iconst (v := 3) hx hb dX5_daysOf_14 (by decide) ?_
  refine lv_aload_n hx hb dX5_daysOf_15 rfl (lv_at hl 0 rfl) ?_
  refine va_get (D := D) (ci := 5) (v := .ref (a 24)) (C := RX5) (T := TX5) (N := 7) hx hb htg ig_5 hown hK hP 3 (oh_wg (by decide) (sX_3 hT)) rfl 2 (by decide) (htg _ q_170) (fun _ h9 => h9) rfl dX5_daysOf_16 ?_
  refine lv_iload_n hx hb dX5_daysOf_19 rfl (lv_at hl 1 rfl) ?_
  have n_5 : vp_in x1 24 := (rg_in hx1 (by decide))
  refine th_iald hx hb hK hP 24 (by decide) (sX_24 hT) n_5 dX5_daysOf_20 ?_
  refine lv_imul hx hb dX5_daysOf_21 ?_
  refine lv_iadd hx hb dX5_daysOf_22 ?_
  rw [hQ]
  exact W.iret (v := r_3 + (3 * (ga (C 24) (x1).toNatClampNeg))) hx hb hr (fun t ht hW => ⟨r_3 + (3 * (ga (C 24) (x1).toNatClampNeg)), rfl, trivial, ht⟩) (fun q h => by cases h) dX5_daysOf_23

set_option maxHeartbeats 4000000 in
set_option maxRecDepth 100000 in
theorem c_X5_priceByCoin (l : Launch) (D : va_G) (E : Nat → ClassId) (G : Nat → Nat) (sz : Nat) (a : Nat → Nat) (C : Nat → va_E) (hT : TyX a E C) (x1 : Int32) : Met l yX5_priceByCoin (oh_w yX5_priceByCoin cX5_priceByCoin 3 none) ({ frames := 3, cells := 0, slots := 0, locals := 65 }) (oh_Pm D E G [.ref (a 3), .int x1] (oh_W 35 a C) sz) (va_Qv (fun (u : Nat → va_E) => TyX a E u ∧ fr [(26, 27)] [] C u ∧ True) (oh_B D (va_A (oh_W 35 a C) sz) (fun u => oh_W 35 a u)) (va_A (oh_W 35 a C) sz)) 0 0 (va_A (oh_W 35 a C) sz) := by
  refine Met.ofW (cc := cX5_priceByCoin) (maxL := 3) (ret := none) (by decide) rfl ?_
  intro p e s m args below meth c s₁ B hml hv
  obtain ⟨rfl, hsz, hP, hK, hD0, hG⟩ := hv
  have hx := B.exec
  have hb := B.bytes
  have hr := B.returns
  have hts := atoms_spec (ws := (oh_w yX5_priceByCoin cX5_priceByCoin 3 none)) B.pre
  have htg : ∀ w ∈ oh_t, w.before _ s = true := fun w h => hts w (List.mem_cons_of_mem _ h)
  have hown : s.vm.findClass RX5 = some m.cls := findClass_of_methodNamed B.named
  have hlocks := B.notSynchronized
  have hT0 := hT
  subst hsz
  have hD := hD0.self (sz := s.heap.size)
  generalize hAe : va_A (oh_W 35 a C) s.heap.size = A at hD hG ⊢
  have hA : ∀ q : Nat, s.heap.size ≤ q → A q := fun q h => by rw [← hAe]; exact Or.inr h
  have hS : va_S A s.heap s.heap [] := va_S.rf
  have hF : fr [(26, 27)] [] C C := fr_rf
  have hl := lv_entry ([.ref (a 3), .int x1]) (n := 3) (Nat.le_of_ble_eq_true rfl)
  rw [lg_entry_eq]
  generalize (lg_sl ([.ref (a 3), .int x1]) ++ List.replicate (3 - (lg_sl ([.ref (a 3), .int x1])).length) Slot.unset).toArray = ls at hl ⊢
  have hl : lv_has ls 3 [(0, .ref (a 3)), (1, .int x1)] := hl
  refine oh_genQ (fun Q hQ => ?_)
  refine lv_iconst (v := 0) hx hb dX5_priceByCoin_0 (by decide) ?_
  refine lv_istore_n (lv' := [(2, .int 0), (0, .ref (a 3)), (1, .int x1)]) hx hb dX5_priceByCoin_1 rfl hl (by decide) rfl (fun ls hl => ?_)
  have L_2 : ∀ (d : Nat) (K2 : Nat → va_E) (z2_2 : Int32) (H : Heap) (locs : List Loc) (ls : Array Slot), (24 - z2_2.toInt).toNat = d → rg z2_2 0 24 → TyX a E K2 → fr [(26, 27)] [] C K2 → fr [(26, 27)] [] C K2 → va_P D vwCl (oh_W 35 a K2) H → va_D A (oh_W 35 a K2) → va_S A s.heap H locs → lv_has ls 3 [(2, .int z2_2), (0, .ref (a 3)), (1, .int x1)] → W p l e ({ frames := 3, cells := 0, slots := 0, locals := 65 }) s m (([.ref (a 3), .int x1] : List Value).toArray) below meth c H locs 0 0 Q (F0 m 2 ls []) := by
    intro d
    induction d using Nat.strongRecOn with
    | ind d ih_2 =>
    intro K2 z2_2 H locs ls hd_2 hz2_2 hT hF hLF_2 hP hD hS hl
    have t_1 := hT
    refine lv_iload_n hx hb dX5_priceByCoin_2 rfl (lv_at hl 0 rfl) ?_
    refine lv_aload_n hx hb dX5_priceByCoin_3 rfl (lv_at hl 1 rfl) ?_
    refine va_get (D := D) (ci := 5) (v := .ref (a 1)) (C := RX5) (T := TX5) (N := 7) hx hb htg ig_5 hown hK hP 3 (oh_wg (by decide) (sX_3 hT)) rfl 0 (by decide) (htg _ q_167) (fun _ h9 => h9) rfl dX5_priceByCoin_4 ?_
    refine va_get (D := D) (ci := 0) (v := .ref (a 10)) (C := RX0) (T := TX0) (N := 8) hx hb htg ig_0 hown hK hP 1 (oh_wg (by decide) (sX_1 hT)) rfl 0 (by decide) (htg _ q_99) (fun _ h9 => h9) rfl dX5_priceByCoin_7 ?_
    refine lv_iconst (v := 0) hx hb dX5_priceByCoin_10 (by decide) ?_
    refine th_iald hx hb hK hP 10 (by decide) (Eq.trans (hLF_2.1 10 rfl (by decide)) (sX_10 hT0)) (rg_in (rg_c (v := 0) (lo := 0) (hi := 0) (by decide)) (by decide)) dX5_priceByCoin_11 ?_
    refine lv_icmp_ge (tgt := 33) hx hb dX5_priceByCoin_12 (by decide) (fun (c_2 : (ga (C 10) ((0 : Int32)).toNatClampNeg) ≤ z2_2) => ?_) (fun (c_2 : ¬ ((ga (C 10) ((0 : Int32)).toNatClampNeg) ≤ z2_2)) => ?_)
    · rw [hQ]
      exact W.vret hx hb hr (fun t ht hW => ⟨⟨K2, rfl, ⟨hT, hF, trivial⟩, ⟨by rw [ht]; exact hP, hD⟩⟩, hS.F ht⟩) hS.2.2 dX5_priceByCoin_33
    · refine lv_aload_n hx hb dX5_priceByCoin_15 rfl (lv_at hl 1 rfl) ?_
      refine va_get (D := D) (ci := 5) (v := .ref (a 26)) (C := RX5) (T := TX5) (N := 7) hx hb htg ig_5 hown hK hP 3 (oh_wg (by decide) (sX_3 hT)) rfl 4 (by decide) (htg _ q_173) (fun _ h9 => h9) rfl dX5_priceByCoin_16 ?_
      refine lv_iload_n hx hb dX5_priceByCoin_19 rfl (lv_at hl 0 rfl) ?_
      refine lv_aload_n hx hb dX5_priceByCoin_20 rfl (lv_at hl 1 rfl) ?_
      refine lv_iload_n hx hb dX5_priceByCoin_21 rfl (lv_at hl 0 rfl) ?_
      refine lv_iload_n hx hb dX5_priceByCoin_22 rfl (lv_at hl 2 rfl) ?_
      refine tq_V (As := [.int z2_2, .int x1]) (rest := [.int z2_2, .ref (a 26)]) (ws := (oh_W 35 a K2)) ⟨hx, hb, hml, hown, htg⟩ (c_X5_coinOf l D E G a K2 hT z2_2 x1 (rg_w (rn_ltu (u' := 23) (Int32.not_le.mp c_2) hz2_2 (tA_rdc (lo := 0) (hi := 24) (tX_10 hT0) (rg_in (rg_c (v := 0) (lo := 0) (hi := 0) (by decide)) (by decide)) (show _ = 0 by decide) (by decide)) (by decide)) (by decide))) (cwV 2 htg (oh_gV q_789 q_763 q_764 q_68 q_765) rfl rfl rfl pdVX5_coinOf ⟨Nat.le_of_ble_eq_true rfl, Nat.le_of_ble_eq_true rfl⟩) hK hP hG hS (va_recv hK hP (ci := 5) (q0 := 3) rfl (oh_wg (by decide) (sX_3 hT))) rfl hl.1 rfl (Nat.le_of_ble_eq_true rfl) dX5_priceByCoin_23 ⟨Nat.le_of_ble_eq_true rfl, Nat.le_of_ble_eq_true rfl⟩ (fun r_3 hq_4 => ?_)
      have n_5 : vp_in z2_2 24 := (rg_in (rn_ltu (u' := 23) (Int32.not_le.mp c_2) hz2_2 (tA_rdc (lo := 0) (hi := 24) (tX_10 hT0) (rg_in (rg_c (v := 0) (lo := 0) (hi := 0) (by decide)) (by decide)) (show _ = 0 by decide) (by decide)) (by decide)) (by decide))
      refine th_iast (T := TyX a E) (Rl := fr [(26, 27)] [] C) hx hb hK hP hD hS 26 (by decide) (sX_26 hT) n_5 (hT.up 26 (tA_upd (tX_26 hT) tA_any)) (fr_st hF (by decide) (by decide)) dX5_priceByCoin_26 (fun C_6 H locs e_7 hT hF hP hD hS => ?_)
      have t_8 := hT
      refine lv_iinc (v := z2_2 + 1) (lv' := [(2, .int (z2_2 + 1)), (0, .ref (a 3)), (1, .int x1)]) hx hb dX5_priceByCoin_27 hl (k := 0) rfl (by rfl) (by decide) rfl (fun ls hl => ?_)
      refine lv_goto (tgt := 2) hx hb dX5_priceByCoin_30 (by decide) ?_
      exact ih_2 _ (hd_2 ▸ mu_up 24 (rn_ltu (u' := 23) (Int32.not_le.mp c_2) hz2_2 (tA_rdc (lo := 0) (hi := 24) (tX_10 hT0) (rg_in (rg_c (v := 0) (lo := 0) (hi := 0) (by decide)) (by decide)) (show _ = 0 by decide) (by decide)) (by decide)) (by decide)) C_6 (z2_2 + 1) _ _ ls rfl (rg_w (rg_add (lo := 1) (hi := 24) (rn_ltu (u' := 23) (Int32.not_le.mp c_2) hz2_2 (tA_rdc (lo := 0) (hi := 24) (tX_10 hT0) (rg_in (rg_c (v := 0) (lo := 0) (hi := 0) (by decide)) (by decide)) (show _ = 0 by decide) (by decide)) (by decide)) (rg_c (v := 1) (lo := 1) (hi := 1) (by decide)) (by decide)) (by decide)) hT hF (fr_ste hLF_2 e_7 (by decide) (by decide)) hP hD hS (lv_sub hl [0, 1, 2] rfl)
  exact L_2 _ C 0 _ _ ls rfl (rg_w (rg_c (v := 0) (lo := 0) (hi := 0) (by decide)) (by decide)) hT hF fr_rf hP hD hS (lv_sub hl [0, 1, 2] rfl)

set_option maxHeartbeats 4000000 in
set_option maxRecDepth 100000 in
theorem c_X5_shorten (l : Launch) (D : va_G) (E : Nat → ClassId) (G : Nat → Nat) (sz : Nat) (a : Nat → Nat) (C : Nat → va_E) (hT : TyX a E C) (x1 : Int32) (hx1 : rg x1 0 23) : Met l yX5_shorten (oh_w yX5_shorten cX5_shorten 4 (some .boolean)) ({ frames := 1, cells := 0, slots := 0, locals := 22 }) (oh_Pm D E G [.ref (a 3), .int x1] (oh_W 35 a C) sz) (va_Qi (fun r (u : Nat → va_E) => TyX a E u ∧ fr [(27, 28)] [] C u ∧ (r = 0 ∨ r = 1)) (oh_B D (va_A (oh_W 35 a C) sz) (fun u => oh_W 35 a u)) (va_A (oh_W 35 a C) sz)) 0 0 (va_A (oh_W 35 a C) sz) := by
  refine Met.ofW (cc := cX5_shorten) (maxL := 4) (ret := (some .boolean)) (by decide) rfl ?_
  intro p e s m args below meth c s₁ B hml hv
  obtain ⟨rfl, hsz, hP, hK, hD0, hG⟩ := hv
  have hx := B.exec
  have hb := B.bytes
  have hr := B.returns
  have hts := atoms_spec (ws := (oh_w yX5_shorten cX5_shorten 4 (some .boolean))) B.pre
  have htg : ∀ w ∈ oh_t, w.before _ s = true := fun w h => hts w (List.mem_cons_of_mem _ h)
  have hown : s.vm.findClass RX5 = some m.cls := findClass_of_methodNamed B.named
  have hlocks := B.notSynchronized
  have hT0 := hT
  subst hsz
  have hD := hD0.self (sz := s.heap.size)
  generalize hAe : va_A (oh_W 35 a C) s.heap.size = A at hD hG ⊢
  have hA : ∀ q : Nat, s.heap.size ≤ q → A q := fun q h => by rw [← hAe]; exact Or.inr h
  have hS : va_S A s.heap s.heap [] := va_S.rf
  have hF : fr [(27, 28)] [] C C := fr_rf
  have hl := lv_entry ([.ref (a 3), .int x1]) (n := 4) (Nat.le_of_ble_eq_true rfl)
  rw [lg_entry_eq]
  generalize (lg_sl ([.ref (a 3), .int x1]) ++ List.replicate (4 - (lg_sl ([.ref (a 3), .int x1])).length) Slot.unset).toArray = ls at hl ⊢
  have hl : lv_has ls 4 [(0, .ref (a 3)), (1, .int x1)] := hl
  refine oh_genQ (fun Q hQ => ?_)
  refine lv_aload_n hx hb dX5_shorten_0 rfl (lv_at hl 0 rfl) ?_
  refine va_get (D := D) (ci := 5) (v := .ref (a 1)) (C := RX5) (T := TX5) (N := 7) hx hb htg ig_5 hown hK hP 3 (oh_wg (by decide) (sX_3 hT)) rfl 0 (by decide) (htg _ q_167) (fun _ h9 => h9) rfl dX5_shorten_1 ?_
  refine lv_iload_n hx hb dX5_shorten_4 rfl (lv_at hl 1 rfl) ?_
  refine lv_iconst (v := 0) hx hb dX5_shorten_5 (by decide) ?_
  refine tq_V (As := [.int x1, .int 0]) (rest := []) (ws := (oh_W 35 a C)) ⟨hx, hb, hml, hown, htg⟩ (c_X0_ofRoad l D E G a C hT x1 (0 : Int32) (rg_w hx1 (by decide)) (rg_w (rg_c (v := 0) (lo := 0) (hi := 0) (by decide)) (by decide))) (cwV 2 htg (oh_gV q_755 q_480 q_481 q_67 q_482) rfl rfl rfl pdVX0_ofRoad ⟨Nat.le_of_ble_eq_true rfl, Nat.le_of_ble_eq_true rfl⟩) hK hP hG hS (va_recv hK hP (ci := 0) (q0 := 1) rfl (oh_wg (by decide) (sX_1 hT))) rfl hl.1 rfl (Nat.le_of_ble_eq_true rfl) dX5_shorten_6 ⟨Nat.le_of_ble_eq_true rfl, Nat.le_of_ble_eq_true rfl⟩ (fun r_1 hq_2 => ?_)
  subst hq_2
  refine lv_istore_n (lv' := [(2, .int (ga (C 11) ((x1 * 7) + 0).toNatClampNeg)), (0, .ref (a 3)), (1, .int x1)]) hx hb dX5_shorten_9 rfl hl (by decide) rfl (fun ls hl => ?_)
  refine lv_aload_n hx hb dX5_shorten_10 rfl (lv_at hl 1 rfl) ?_
  refine va_get (D := D) (ci := 5) (v := .ref (a 1)) (C := RX5) (T := TX5) (N := 7) hx hb htg ig_5 hown hK hP 3 (oh_wg (by decide) (sX_3 hT)) rfl 0 (by decide) (htg _ q_167) (fun _ h9 => h9) rfl dX5_shorten_11 ?_
  refine lv_iload_n hx hb dX5_shorten_14 rfl (lv_at hl 2 rfl) ?_
  refine lv_iconst (v := 1) hx hb dX5_shorten_15 (by decide) ?_
  refine tq_V (As := [.int x1, .int 1]) (rest := []) (ws := (oh_W 35 a C)) ⟨hx, hb, hml, hown, htg⟩ (c_X0_ofRoad l D E G a C hT x1 (1 : Int32) (rg_w hx1 (by decide)) (rg_w (rg_c (v := 1) (lo := 1) (hi := 1) (by decide)) (by decide))) (cwV 2 htg (oh_gV q_755 q_480 q_481 q_67 q_482) rfl rfl rfl pdVX0_ofRoad ⟨Nat.le_of_ble_eq_true rfl, Nat.le_of_ble_eq_true rfl⟩) hK hP hG hS (va_recv hK hP (ci := 0) (q0 := 1) rfl (oh_wg (by decide) (sX_1 hT))) rfl hl.1 rfl (Nat.le_of_ble_eq_true rfl) dX5_shorten_16 ⟨Nat.le_of_ble_eq_true rfl, Nat.le_of_ble_eq_true rfl⟩ (fun r_3 hq_4 => ?_)
  subst hq_4
  refine lv_istore_n (lv' := [(3, .int (ga (C 11) ((x1 * 7) + 1).toNatClampNeg)), (2, .int (ga (C 11) ((x1 * 7) + 0).toNatClampNeg)), (0, .ref (a 3)), (1, .int x1)]) hx hb dX5_shorten_19 rfl hl (by decide) rfl (fun ls hl => ?_)
  refine lv_aload_n hx hb dX5_shorten_20 rfl (lv_at hl 2 rfl) ?_
  refine va_get (D := D) (ci := 5) (v := .ref (a 27)) (C := RX5) (T := TX5) (N := 7) hx hb htg ig_5 hown hK hP 3 (oh_wg (by decide) (sX_3 hT)) rfl 5 (by decide) (htg _ q_174) (fun _ h9 => h9) rfl dX5_shorten_21 ?_
  refine lv_iload_n hx hb dX5_shorten_24 rfl (lv_at hl 1 rfl) ?_
  have n_5 : vp_in (ga (C 11) ((x1 * 7) + 0).toNatClampNeg) 16 := (rg_in (tA_rdc (lo := 0) (hi := 15) (tX_11 hT0) (rg_in (rg_add (lo := 0) (hi := 161) (rg_mul (lo := 0) (hi := 161) hx1 (rg_c (v := 7) (lo := 7) (hi := 7) (by decide)) (by decide)) (rg_c (v := 0) (lo := 0) (hi := 0) (by decide)) (by decide)) (by decide)) (oh_col (W := 7) hx1 rfl (rg_c (v := 0) (lo := 0) (hi := 0) (by decide)) (by decide)) (by decide)) (by decide))
  refine th_iald hx hb hK hP 27 (by decide) (sX_27 hT) n_5 dX5_shorten_25 ?_
  refine lv_ldc (v := 1000000000) hx hb hown (htg _ q_794) dX5_shorten_26 ?_
  refine lv_icmp_eq (tgt := 74) hx hb dX5_shorten_28 (by decide) (fun (c_6 : (ga (C 27) (ga (C 11) ((x1 * 7) + 0).toNatClampNeg).toNatClampNeg) = 1000000000) => ?_) (fun (c_6 : ¬ ((ga (C 27) (ga (C 11) ((x1 * 7) + 0).toNatClampNeg).toNatClampNeg) = 1000000000)) => ?_)
  · refine lv_aload_n hx hb dX5_shorten_74 rfl (lv_at hl 2 rfl) ?_
    refine va_get (D := D) (ci := 5) (v := .ref (a 27)) (C := RX5) (T := TX5) (N := 7) hx hb htg ig_5 hown hK hP 3 (oh_wg (by decide) (sX_3 hT)) rfl 5 (by decide) (htg _ q_174) (fun _ h9 => h9) rfl dX5_shorten_75 ?_
    refine lv_iload_n hx hb dX5_shorten_78 rfl (lv_at hl 0 rfl) ?_
    have n_7 : vp_in (ga (C 11) ((x1 * 7) + 1).toNatClampNeg) 16 := (rg_in (tA_rdc (lo := 0) (hi := 15) (tX_11 hT0) (rg_in (rg_add (lo := 1) (hi := 162) (rg_mul (lo := 0) (hi := 161) hx1 (rg_c (v := 7) (lo := 7) (hi := 7) (by decide)) (by decide)) (rg_c (v := 1) (lo := 1) (hi := 1) (by decide)) (by decide)) (by decide)) (oh_col (W := 7) hx1 rfl (rg_c (v := 1) (lo := 1) (hi := 1) (by decide)) (by decide)) (by decide)) (by decide))
    refine th_iald hx hb hK hP 27 (by decide) (sX_27 hT) n_7 dX5_shorten_79 ?_
    refine lv_ldc (v := 1000000000) hx hb hown (htg _ q_794) dX5_shorten_80 ?_
    refine lv_icmp_eq (tgt := 128) hx hb dX5_shorten_82 (by decide) (fun (c_8 : (ga (C 27) (ga (C 11) ((x1 * 7) + 1).toNatClampNeg).toNatClampNeg) = 1000000000) => ?_) (fun (c_8 : ¬ ((ga (C 27) (ga (C 11) ((x1 * 7) + 1).toNatClampNeg).toNatClampNeg) = 1000000000)) => ?_)
    · refine lv_iconst (v := 0) hx hb dX5_shorten_128 (by decide) ?_
      rw [hQ]
      exact W.zret (v := 0) (ty := .boolean) hx hb hr (by decide) (fun t ht hW => ⟨⟨0, C, rfl, ⟨hT, hF, (Or.inl rfl)⟩, ⟨by rw [ht]; exact hP, hD⟩⟩, hS.F ht⟩) hS.2.2 dX5_shorten_129
    · refine lv_aload_n hx hb dX5_shorten_85 rfl (lv_at hl 2 rfl) ?_
      refine va_get (D := D) (ci := 5) (v := .ref (a 27)) (C := RX5) (T := TX5) (N := 7) hx hb htg ig_5 hown hK hP 3 (oh_wg (by decide) (sX_3 hT)) rfl 5 (by decide) (htg _ q_174) (fun _ h9 => h9) rfl dX5_shorten_86 ?_
      refine lv_iload_n hx hb dX5_shorten_89 rfl (lv_at hl 0 rfl) ?_
      have n_9 : vp_in (ga (C 11) ((x1 * 7) + 1).toNatClampNeg) 16 := (rg_in (tA_rdc (lo := 0) (hi := 15) (tX_11 hT0) (rg_in (rg_add (lo := 1) (hi := 162) (rg_mul (lo := 0) (hi := 161) hx1 (rg_c (v := 7) (lo := 7) (hi := 7) (by decide)) (by decide)) (rg_c (v := 1) (lo := 1) (hi := 1) (by decide)) (by decide)) (by decide)) (oh_col (W := 7) hx1 rfl (rg_c (v := 1) (lo := 1) (hi := 1) (by decide)) (by decide)) (by decide)) (by decide))
      refine th_iald hx hb hK hP 27 (by decide) (sX_27 hT) n_9 dX5_shorten_90 ?_
      refine lv_aload_n hx hb dX5_shorten_91 rfl (lv_at hl 2 rfl) ?_
      refine va_get (D := D) (ci := 5) (v := .ref (a 26)) (C := RX5) (T := TX5) (N := 7) hx hb htg ig_5 hown hK hP 3 (oh_wg (by decide) (sX_3 hT)) rfl 4 (by decide) (htg _ q_173) (fun _ h9 => h9) rfl dX5_shorten_92 ?_
      refine lv_iload_n hx hb dX5_shorten_95 rfl (lv_at hl 3 rfl) ?_
      have n_10 : vp_in x1 24 := (rg_in hx1 (by decide))
      refine th_iald hx hb hK hP 26 (by decide) (sX_26 hT) n_10 dX5_shorten_96 ?_
      refine lv_iadd hx hb dX5_shorten_97 ?_
      refine lv_aload_n hx hb dX5_shorten_98 rfl (lv_at hl 2 rfl) ?_
      refine va_get (D := D) (ci := 5) (v := .ref (a 27)) (C := RX5) (T := TX5) (N := 7) hx hb htg ig_5 hown hK hP 3 (oh_wg (by decide) (sX_3 hT)) rfl 5 (by decide) (htg _ q_174) (fun _ h9 => h9) rfl dX5_shorten_99 ?_
      refine lv_iload_n hx hb dX5_shorten_102 rfl (lv_at hl 1 rfl) ?_
      have n_11 : vp_in (ga (C 11) ((x1 * 7) + 0).toNatClampNeg) 16 := (rg_in (tA_rdc (lo := 0) (hi := 15) (tX_11 hT0) (rg_in (rg_add (lo := 0) (hi := 161) (rg_mul (lo := 0) (hi := 161) hx1 (rg_c (v := 7) (lo := 7) (hi := 7) (by decide)) (by decide)) (rg_c (v := 0) (lo := 0) (hi := 0) (by decide)) (by decide)) (by decide)) (oh_col (W := 7) hx1 rfl (rg_c (v := 0) (lo := 0) (hi := 0) (by decide)) (by decide)) (by decide)) (by decide))
      refine th_iald hx hb hK hP 27 (by decide) (sX_27 hT) n_11 dX5_shorten_103 ?_
      refine lv_icmp_ge (tgt := 128) hx hb dX5_shorten_104 (by decide) (fun (c_12 : (ga (C 27) (ga (C 11) ((x1 * 7) + 0).toNatClampNeg).toNatClampNeg) ≤ ((ga (C 27) (ga (C 11) ((x1 * 7) + 1).toNatClampNeg).toNatClampNeg) + (ga (C 26) (x1).toNatClampNeg))) => ?_) (fun (c_12 : ¬ ((ga (C 27) (ga (C 11) ((x1 * 7) + 0).toNatClampNeg).toNatClampNeg) ≤ ((ga (C 27) (ga (C 11) ((x1 * 7) + 1).toNatClampNeg).toNatClampNeg) + (ga (C 26) (x1).toNatClampNeg)))) => ?_)
      · refine lv_iconst (v := 0) hx hb dX5_shorten_128 (by decide) ?_
        rw [hQ]
        exact W.zret (v := 0) (ty := .boolean) hx hb hr (by decide) (fun t ht hW => ⟨⟨0, C, rfl, ⟨hT, hF, (Or.inl rfl)⟩, ⟨by rw [ht]; exact hP, hD⟩⟩, hS.F ht⟩) hS.2.2 dX5_shorten_129
      · refine lv_aload_n hx hb dX5_shorten_107 rfl (lv_at hl 2 rfl) ?_
        refine va_get (D := D) (ci := 5) (v := .ref (a 27)) (C := RX5) (T := TX5) (N := 7) hx hb htg ig_5 hown hK hP 3 (oh_wg (by decide) (sX_3 hT)) rfl 5 (by decide) (htg _ q_174) (fun _ h9 => h9) rfl dX5_shorten_108 ?_
        refine lv_iload_n hx hb dX5_shorten_111 rfl (lv_at hl 1 rfl) ?_
        refine lv_aload_n hx hb dX5_shorten_112 rfl (lv_at hl 2 rfl) ?_
        refine va_get (D := D) (ci := 5) (v := .ref (a 27)) (C := RX5) (T := TX5) (N := 7) hx hb htg ig_5 hown hK hP 3 (oh_wg (by decide) (sX_3 hT)) rfl 5 (by decide) (htg _ q_174) (fun _ h9 => h9) rfl dX5_shorten_113 ?_
        refine lv_iload_n hx hb dX5_shorten_116 rfl (lv_at hl 0 rfl) ?_
        have n_13 : vp_in (ga (C 11) ((x1 * 7) + 1).toNatClampNeg) 16 := (rg_in (tA_rdc (lo := 0) (hi := 15) (tX_11 hT0) (rg_in (rg_add (lo := 1) (hi := 162) (rg_mul (lo := 0) (hi := 161) hx1 (rg_c (v := 7) (lo := 7) (hi := 7) (by decide)) (by decide)) (rg_c (v := 1) (lo := 1) (hi := 1) (by decide)) (by decide)) (by decide)) (oh_col (W := 7) hx1 rfl (rg_c (v := 1) (lo := 1) (hi := 1) (by decide)) (by decide)) (by decide)) (by decide))
        refine th_iald hx hb hK hP 27 (by decide) (sX_27 hT) n_13 dX5_shorten_117 ?_
        refine lv_aload_n hx hb dX5_shorten_118 rfl (lv_at hl 2 rfl) ?_
        refine va_get (D := D) (ci := 5) (v := .ref (a 26)) (C := RX5) (T := TX5) (N := 7) hx hb htg ig_5 hown hK hP 3 (oh_wg (by decide) (sX_3 hT)) rfl 4 (by decide) (htg _ q_173) (fun _ h9 => h9) rfl dX5_shorten_119 ?_
        refine lv_iload_n hx hb dX5_shorten_122 rfl (lv_at hl 3 rfl) ?_
        have n_14 : vp_in x1 24 := (rg_in hx1 (by decide))
        refine th_iald hx hb hK hP 26 (by decide) (sX_26 hT) n_14 dX5_shorten_123 ?_
        refine lv_iadd hx hb dX5_shorten_124 ?_
        have n_15 : vp_in (ga (C 11) ((x1 * 7) + 0).toNatClampNeg) 16 := (rg_in (tA_rdc (lo := 0) (hi := 15) (tX_11 hT0) (rg_in (rg_add (lo := 0) (hi := 161) (rg_mul (lo := 0) (hi := 161) hx1 (rg_c (v := 7) (lo := 7) (hi := 7) (by decide)) (by decide)) (rg_c (v := 0) (lo := 0) (hi := 0) (by decide)) (by decide)) (by decide)) (oh_col (W := 7) hx1 rfl (rg_c (v := 0) (lo := 0) (hi := 0) (by decide)) (by decide)) (by decide)) (by decide))
        refine th_iast (T := TyX a E) (Rl := fr [(27, 28)] [] C) hx hb hK hP hD hS 27 (by decide) (sX_27 hT) n_15 (hT.up 27 (tA_upd (tX_27 hT) tA_any)) (fr_st hF (by decide) (by decide)) dX5_shorten_125 (fun C_16 H locs e_17 hT hF hP hD hS => ?_)
        have t_18 := hT
        refine lv_iconst (v := 1) hx hb dX5_shorten_126 (by decide) ?_
        rw [hQ]
        exact W.zret (v := 1) (ty := .boolean) hx hb hr (by decide) (fun t ht hW => ⟨⟨1, C_16, rfl, ⟨hT, hF, (Or.inr rfl)⟩, ⟨by rw [ht]; exact hP, hD⟩⟩, hS.F ht⟩) hS.2.2 dX5_shorten_127
  · refine lv_aload_n hx hb dX5_shorten_31 rfl (lv_at hl 2 rfl) ?_
    refine va_get (D := D) (ci := 5) (v := .ref (a 27)) (C := RX5) (T := TX5) (N := 7) hx hb htg ig_5 hown hK hP 3 (oh_wg (by decide) (sX_3 hT)) rfl 5 (by decide) (htg _ q_174) (fun _ h9 => h9) rfl dX5_shorten_32 ?_
    refine lv_iload_n hx hb dX5_shorten_35 rfl (lv_at hl 1 rfl) ?_
    have n_19 : vp_in (ga (C 11) ((x1 * 7) + 0).toNatClampNeg) 16 := (rg_in (tA_rdc (lo := 0) (hi := 15) (tX_11 hT0) (rg_in (rg_add (lo := 0) (hi := 161) (rg_mul (lo := 0) (hi := 161) hx1 (rg_c (v := 7) (lo := 7) (hi := 7) (by decide)) (by decide)) (rg_c (v := 0) (lo := 0) (hi := 0) (by decide)) (by decide)) (by decide)) (oh_col (W := 7) hx1 rfl (rg_c (v := 0) (lo := 0) (hi := 0) (by decide)) (by decide)) (by decide)) (by decide))
    refine th_iald hx hb hK hP 27 (by decide) (sX_27 hT) n_19 dX5_shorten_36 ?_
    refine lv_aload_n hx hb dX5_shorten_37 rfl (lv_at hl 2 rfl) ?_
    refine va_get (D := D) (ci := 5) (v := .ref (a 26)) (C := RX5) (T := TX5) (N := 7) hx hb htg ig_5 hown hK hP 3 (oh_wg (by decide) (sX_3 hT)) rfl 4 (by decide) (htg _ q_173) (fun _ h9 => h9) rfl dX5_shorten_38 ?_
    refine lv_iload_n hx hb dX5_shorten_41 rfl (lv_at hl 3 rfl) ?_
    have n_20 : vp_in x1 24 := (rg_in hx1 (by decide))
    refine th_iald hx hb hK hP 26 (by decide) (sX_26 hT) n_20 dX5_shorten_42 ?_
    refine lv_iadd hx hb dX5_shorten_43 ?_
    refine lv_aload_n hx hb dX5_shorten_44 rfl (lv_at hl 2 rfl) ?_
    refine va_get (D := D) (ci := 5) (v := .ref (a 27)) (C := RX5) (T := TX5) (N := 7) hx hb htg ig_5 hown hK hP 3 (oh_wg (by decide) (sX_3 hT)) rfl 5 (by decide) (htg _ q_174) (fun _ h9 => h9) rfl dX5_shorten_45 ?_
    refine lv_iload_n hx hb dX5_shorten_48 rfl (lv_at hl 0 rfl) ?_
    have n_21 : vp_in (ga (C 11) ((x1 * 7) + 1).toNatClampNeg) 16 := (rg_in (tA_rdc (lo := 0) (hi := 15) (tX_11 hT0) (rg_in (rg_add (lo := 1) (hi := 162) (rg_mul (lo := 0) (hi := 161) hx1 (rg_c (v := 7) (lo := 7) (hi := 7) (by decide)) (by decide)) (rg_c (v := 1) (lo := 1) (hi := 1) (by decide)) (by decide)) (by decide)) (oh_col (W := 7) hx1 rfl (rg_c (v := 1) (lo := 1) (hi := 1) (by decide)) (by decide)) (by decide)) (by decide))
    refine th_iald hx hb hK hP 27 (by decide) (sX_27 hT) n_21 dX5_shorten_49 ?_
    refine lv_icmp_ge (tgt := 74) hx hb dX5_shorten_50 (by decide) (fun (c_22 : (ga (C 27) (ga (C 11) ((x1 * 7) + 1).toNatClampNeg).toNatClampNeg) ≤ ((ga (C 27) (ga (C 11) ((x1 * 7) + 0).toNatClampNeg).toNatClampNeg) + (ga (C 26) (x1).toNatClampNeg))) => ?_) (fun (c_22 : ¬ ((ga (C 27) (ga (C 11) ((x1 * 7) + 1).toNatClampNeg).toNatClampNeg) ≤ ((ga (C 27) (ga (C 11) ((x1 * 7) + 0).toNatClampNeg).toNatClampNeg) + (ga (C 26) (x1).toNatClampNeg)))) => ?_)
    · refine lv_aload_n hx hb dX5_shorten_74 rfl (lv_at hl 2 rfl) ?_
      refine va_get (D := D) (ci := 5) (v := .ref (a 27)) (C := RX5) (T := TX5) (N := 7) hx hb htg ig_5 hown hK hP 3 (oh_wg (by decide) (sX_3 hT)) rfl 5 (by decide) (htg _ q_174) (fun _ h9 => h9) rfl dX5_shorten_75 ?_
      refine lv_iload_n hx hb dX5_shorten_78 rfl (lv_at hl 0 rfl) ?_
      have n_23 : vp_in (ga (C 11) ((x1 * 7) + 1).toNatClampNeg) 16 := (rg_in (tA_rdc (lo := 0) (hi := 15) (tX_11 hT0) (rg_in (rg_add (lo := 1) (hi := 162) (rg_mul (lo := 0) (hi := 161) hx1 (rg_c (v := 7) (lo := 7) (hi := 7) (by decide)) (by decide)) (rg_c (v := 1) (lo := 1) (hi := 1) (by decide)) (by decide)) (by decide)) (oh_col (W := 7) hx1 rfl (rg_c (v := 1) (lo := 1) (hi := 1) (by decide)) (by decide)) (by decide)) (by decide))
      refine th_iald hx hb hK hP 27 (by decide) (sX_27 hT) n_23 dX5_shorten_79 ?_
      refine lv_ldc (v := 1000000000) hx hb hown (htg _ q_794) dX5_shorten_80 ?_
      refine lv_icmp_eq (tgt := 128) hx hb dX5_shorten_82 (by decide) (fun (c_24 : (ga (C 27) (ga (C 11) ((x1 * 7) + 1).toNatClampNeg).toNatClampNeg) = 1000000000) => ?_) (fun (c_24 : ¬ ((ga (C 27) (ga (C 11) ((x1 * 7) + 1).toNatClampNeg).toNatClampNeg) = 1000000000)) => ?_)
      · refine lv_iconst (v := 0) hx hb dX5_shorten_128 (by decide) ?_
        rw [hQ]
        exact W.zret (v := 0) (ty := .boolean) hx hb hr (by decide) (fun t ht hW => ⟨⟨0, C, rfl, ⟨hT, hF, (Or.inl rfl)⟩, ⟨by rw [ht]; exact hP, hD⟩⟩, hS.F ht⟩) hS.2.2 dX5_shorten_129
      · refine lv_aload_n hx hb dX5_shorten_85 rfl (lv_at hl 2 rfl) ?_
        refine va_get (D := D) (ci := 5) (v := .ref (a 27)) (C := RX5) (T := TX5) (N := 7) hx hb htg ig_5 hown hK hP 3 (oh_wg (by decide) (sX_3 hT)) rfl 5 (by decide) (htg _ q_174) (fun _ h9 => h9) rfl dX5_shorten_86 ?_
        refine lv_iload_n hx hb dX5_shorten_89 rfl (lv_at hl 0 rfl) ?_
        have n_25 : vp_in (ga (C 11) ((x1 * 7) + 1).toNatClampNeg) 16 := (rg_in (tA_rdc (lo := 0) (hi := 15) (tX_11 hT0) (rg_in (rg_add (lo := 1) (hi := 162) (rg_mul (lo := 0) (hi := 161) hx1 (rg_c (v := 7) (lo := 7) (hi := 7) (by decide)) (by decide)) (rg_c (v := 1) (lo := 1) (hi := 1) (by decide)) (by decide)) (by decide)) (oh_col (W := 7) hx1 rfl (rg_c (v := 1) (lo := 1) (hi := 1) (by decide)) (by decide)) (by decide)) (by decide))
        refine th_iald hx hb hK hP 27 (by decide) (sX_27 hT) n_25 dX5_shorten_90 ?_
        refine lv_aload_n hx hb dX5_shorten_91 rfl (lv_at hl 2 rfl) ?_
        refine va_get (D := D) (ci := 5) (v := .ref (a 26)) (C := RX5) (T := TX5) (N := 7) hx hb htg ig_5 hown hK hP 3 (oh_wg (by decide) (sX_3 hT)) rfl 4 (by decide) (htg _ q_173) (fun _ h9 => h9) rfl dX5_shorten_92 ?_
        refine lv_iload_n hx hb dX5_shorten_95 rfl (lv_at hl 3 rfl) ?_
        have n_26 : vp_in x1 24 := (rg_in hx1 (by decide))
        refine th_iald hx hb hK hP 26 (by decide) (sX_26 hT) n_26 dX5_shorten_96 ?_
        refine lv_iadd hx hb dX5_shorten_97 ?_
        refine lv_aload_n hx hb dX5_shorten_98 rfl (lv_at hl 2 rfl) ?_
        refine va_get (D := D) (ci := 5) (v := .ref (a 27)) (C := RX5) (T := TX5) (N := 7) hx hb htg ig_5 hown hK hP 3 (oh_wg (by decide) (sX_3 hT)) rfl 5 (by decide) (htg _ q_174) (fun _ h9 => h9) rfl dX5_shorten_99 ?_
        refine lv_iload_n hx hb dX5_shorten_102 rfl (lv_at hl 1 rfl) ?_
        have n_27 : vp_in (ga (C 11) ((x1 * 7) + 0).toNatClampNeg) 16 := (rg_in (tA_rdc (lo := 0) (hi := 15) (tX_11 hT0) (rg_in (rg_add (lo := 0) (hi := 161) (rg_mul (lo := 0) (hi := 161) hx1 (rg_c (v := 7) (lo := 7) (hi := 7) (by decide)) (by decide)) (rg_c (v := 0) (lo := 0) (hi := 0) (by decide)) (by decide)) (by decide)) (oh_col (W := 7) hx1 rfl (rg_c (v := 0) (lo := 0) (hi := 0) (by decide)) (by decide)) (by decide)) (by decide))
        refine th_iald hx hb hK hP 27 (by decide) (sX_27 hT) n_27 dX5_shorten_103 ?_
        refine lv_icmp_ge (tgt := 128) hx hb dX5_shorten_104 (by decide) (fun (c_28 : (ga (C 27) (ga (C 11) ((x1 * 7) + 0).toNatClampNeg).toNatClampNeg) ≤ ((ga (C 27) (ga (C 11) ((x1 * 7) + 1).toNatClampNeg).toNatClampNeg) + (ga (C 26) (x1).toNatClampNeg))) => ?_) (fun (c_28 : ¬ ((ga (C 27) (ga (C 11) ((x1 * 7) + 0).toNatClampNeg).toNatClampNeg) ≤ ((ga (C 27) (ga (C 11) ((x1 * 7) + 1).toNatClampNeg).toNatClampNeg) + (ga (C 26) (x1).toNatClampNeg)))) => ?_)
        · refine lv_iconst (v := 0) hx hb dX5_shorten_128 (by decide) ?_
          rw [hQ]
          exact W.zret (v := 0) (ty := .boolean) hx hb hr (by decide) (fun t ht hW => ⟨⟨0, C, rfl, ⟨hT, hF, (Or.inl rfl)⟩, ⟨by rw [ht]; exact hP, hD⟩⟩, hS.F ht⟩) hS.2.2 dX5_shorten_129
        · refine lv_aload_n hx hb dX5_shorten_107 rfl (lv_at hl 2 rfl) ?_
          refine va_get (D := D) (ci := 5) (v := .ref (a 27)) (C := RX5) (T := TX5) (N := 7) hx hb htg ig_5 hown hK hP 3 (oh_wg (by decide) (sX_3 hT)) rfl 5 (by decide) (htg _ q_174) (fun _ h9 => h9) rfl dX5_shorten_108 ?_
          refine lv_iload_n hx hb dX5_shorten_111 rfl (lv_at hl 1 rfl) ?_
          refine lv_aload_n hx hb dX5_shorten_112 rfl (lv_at hl 2 rfl) ?_
          refine va_get (D := D) (ci := 5) (v := .ref (a 27)) (C := RX5) (T := TX5) (N := 7) hx hb htg ig_5 hown hK hP 3 (oh_wg (by decide) (sX_3 hT)) rfl 5 (by decide) (htg _ q_174) (fun _ h9 => h9) rfl dX5_shorten_113 ?_
          refine lv_iload_n hx hb dX5_shorten_116 rfl (lv_at hl 0 rfl) ?_
          have n_29 : vp_in (ga (C 11) ((x1 * 7) + 1).toNatClampNeg) 16 := (rg_in (tA_rdc (lo := 0) (hi := 15) (tX_11 hT0) (rg_in (rg_add (lo := 1) (hi := 162) (rg_mul (lo := 0) (hi := 161) hx1 (rg_c (v := 7) (lo := 7) (hi := 7) (by decide)) (by decide)) (rg_c (v := 1) (lo := 1) (hi := 1) (by decide)) (by decide)) (by decide)) (oh_col (W := 7) hx1 rfl (rg_c (v := 1) (lo := 1) (hi := 1) (by decide)) (by decide)) (by decide)) (by decide))
          refine th_iald hx hb hK hP 27 (by decide) (sX_27 hT) n_29 dX5_shorten_117 ?_
          refine lv_aload_n hx hb dX5_shorten_118 rfl (lv_at hl 2 rfl) ?_
          refine va_get (D := D) (ci := 5) (v := .ref (a 26)) (C := RX5) (T := TX5) (N := 7) hx hb htg ig_5 hown hK hP 3 (oh_wg (by decide) (sX_3 hT)) rfl 4 (by decide) (htg _ q_173) (fun _ h9 => h9) rfl dX5_shorten_119 ?_
          refine lv_iload_n hx hb dX5_shorten_122 rfl (lv_at hl 3 rfl) ?_
          have n_30 : vp_in x1 24 := (rg_in hx1 (by decide))
          refine th_iald hx hb hK hP 26 (by decide) (sX_26 hT) n_30 dX5_shorten_123 ?_
          refine lv_iadd hx hb dX5_shorten_124 ?_
          have n_31 : vp_in (ga (C 11) ((x1 * 7) + 0).toNatClampNeg) 16 := (rg_in (tA_rdc (lo := 0) (hi := 15) (tX_11 hT0) (rg_in (rg_add (lo := 0) (hi := 161) (rg_mul (lo := 0) (hi := 161) hx1 (rg_c (v := 7) (lo := 7) (hi := 7) (by decide)) (by decide)) (rg_c (v := 0) (lo := 0) (hi := 0) (by decide)) (by decide)) (by decide)) (oh_col (W := 7) hx1 rfl (rg_c (v := 0) (lo := 0) (hi := 0) (by decide)) (by decide)) (by decide)) (by decide))
          refine th_iast (T := TyX a E) (Rl := fr [(27, 28)] [] C) hx hb hK hP hD hS 27 (by decide) (sX_27 hT) n_31 (hT.up 27 (tA_upd (tX_27 hT) tA_any)) (fr_st hF (by decide) (by decide)) dX5_shorten_125 (fun C_32 H locs e_33 hT hF hP hD hS => ?_)
          have t_34 := hT
          refine lv_iconst (v := 1) hx hb dX5_shorten_126 (by decide) ?_
          rw [hQ]
          exact W.zret (v := 1) (ty := .boolean) hx hb hr (by decide) (fun t ht hW => ⟨⟨1, C_32, rfl, ⟨hT, hF, (Or.inr rfl)⟩, ⟨by rw [ht]; exact hP, hD⟩⟩, hS.F ht⟩) hS.2.2 dX5_shorten_127
    · refine lv_aload_n hx hb dX5_shorten_53 rfl (lv_at hl 2 rfl) ?_
      refine va_get (D := D) (ci := 5) (v := .ref (a 27)) (C := RX5) (T := TX5) (N := 7) hx hb htg ig_5 hown hK hP 3 (oh_wg (by decide) (sX_3 hT)) rfl 5 (by decide) (htg _ q_174) (fun _ h9 => h9) rfl dX5_shorten_54 ?_
      refine lv_iload_n hx hb dX5_shorten_57 rfl (lv_at hl 0 rfl) ?_
      refine lv_aload_n hx hb dX5_shorten_58 rfl (lv_at hl 2 rfl) ?_
      refine va_get (D := D) (ci := 5) (v := .ref (a 27)) (C := RX5) (T := TX5) (N := 7) hx hb htg ig_5 hown hK hP 3 (oh_wg (by decide) (sX_3 hT)) rfl 5 (by decide) (htg _ q_174) (fun _ h9 => h9) rfl dX5_shorten_59 ?_
      refine lv_iload_n hx hb dX5_shorten_62 rfl (lv_at hl 1 rfl) ?_
      have n_35 : vp_in (ga (C 11) ((x1 * 7) + 0).toNatClampNeg) 16 := (rg_in (tA_rdc (lo := 0) (hi := 15) (tX_11 hT0) (rg_in (rg_add (lo := 0) (hi := 161) (rg_mul (lo := 0) (hi := 161) hx1 (rg_c (v := 7) (lo := 7) (hi := 7) (by decide)) (by decide)) (rg_c (v := 0) (lo := 0) (hi := 0) (by decide)) (by decide)) (by decide)) (oh_col (W := 7) hx1 rfl (rg_c (v := 0) (lo := 0) (hi := 0) (by decide)) (by decide)) (by decide)) (by decide))
      refine th_iald hx hb hK hP 27 (by decide) (sX_27 hT) n_35 dX5_shorten_63 ?_
      refine lv_aload_n hx hb dX5_shorten_64 rfl (lv_at hl 2 rfl) ?_
      refine va_get (D := D) (ci := 5) (v := .ref (a 26)) (C := RX5) (T := TX5) (N := 7) hx hb htg ig_5 hown hK hP 3 (oh_wg (by decide) (sX_3 hT)) rfl 4 (by decide) (htg _ q_173) (fun _ h9 => h9) rfl dX5_shorten_65 ?_
      refine lv_iload_n hx hb dX5_shorten_68 rfl (lv_at hl 3 rfl) ?_
      have n_36 : vp_in x1 24 := (rg_in hx1 (by decide))
      refine th_iald hx hb hK hP 26 (by decide) (sX_26 hT) n_36 dX5_shorten_69 ?_
      refine lv_iadd hx hb dX5_shorten_70 ?_
      have n_37 : vp_in (ga (C 11) ((x1 * 7) + 1).toNatClampNeg) 16 := (rg_in (tA_rdc (lo := 0) (hi := 15) (tX_11 hT0) (rg_in (rg_add (lo := 1) (hi := 162) (rg_mul (lo := 0) (hi := 161) hx1 (rg_c (v := 7) (lo := 7) (hi := 7) (by decide)) (by decide)) (rg_c (v := 1) (lo := 1) (hi := 1) (by decide)) (by decide)) (by decide)) (oh_col (W := 7) hx1 rfl (rg_c (v := 1) (lo := 1) (hi := 1) (by decide)) (by decide)) (by decide)) (by decide))
      refine th_iast (T := TyX a E) (Rl := fr [(27, 28)] [] C) hx hb hK hP hD hS 27 (by decide) (sX_27 hT) n_37 (hT.up 27 (tA_upd (tX_27 hT) tA_any)) (fr_st hF (by decide) (by decide)) dX5_shorten_71 (fun C_38 H locs e_39 hT hF hP hD hS => ?_)
      have t_40 := hT
      refine lv_iconst (v := 1) hx hb dX5_shorten_72 (by decide) ?_
      rw [hQ]
      exact W.zret (v := 1) (ty := .boolean) hx hb hr (by decide) (fun t ht hW => ⟨⟨1, C_38, rfl, ⟨hT, hF, (Or.inr rfl)⟩, ⟨by rw [ht]; exact hP, hD⟩⟩, hS.F ht⟩) hS.2.2 dX5_shorten_73

set_option maxHeartbeats 4000000 in
set_option maxRecDepth 100000 in
theorem c_X5_spread (l : Launch) (D : va_G) (E : Nat → ClassId) (G : Nat → Nat) (sz : Nat) (a : Nat → Nat) (C : Nat → va_E) (hT : TyX a E C) (x1 : Int32) (hx1 : rg x1 0 15) : Met l yX5_spread (oh_w yX5_spread cX5_spread 5 none) ({ frames := 2, cells := 0, slots := 0, locals := 45 }) (oh_Pm D E G [.ref (a 3), .int x1] (oh_W 35 a C) sz) (va_Qv (fun (u : Nat → va_E) => TyX a E u ∧ fr [(27, 28)] [] C u ∧ True) (oh_B D (va_A (oh_W 35 a C) sz) (fun u => oh_W 35 a u)) (va_A (oh_W 35 a C) sz)) 0 0 (va_A (oh_W 35 a C) sz) := by
  refine Met.ofW (cc := cX5_spread) (maxL := 5) (ret := none) (by decide) rfl ?_
  intro p e s m args below meth c s₁ B hml hv
  obtain ⟨rfl, hsz, hP, hK, hD0, hG⟩ := hv
  have hx := B.exec
  have hb := B.bytes
  have hr := B.returns
  have hts := atoms_spec (ws := (oh_w yX5_spread cX5_spread 5 none)) B.pre
  have htg : ∀ w ∈ oh_t, w.before _ s = true := fun w h => hts w (List.mem_cons_of_mem _ h)
  have hown : s.vm.findClass RX5 = some m.cls := findClass_of_methodNamed B.named
  have hlocks := B.notSynchronized
  have hT0 := hT
  subst hsz
  have hD := hD0.self (sz := s.heap.size)
  generalize hAe : va_A (oh_W 35 a C) s.heap.size = A at hD hG ⊢
  have hA : ∀ q : Nat, s.heap.size ≤ q → A q := fun q h => by rw [← hAe]; exact Or.inr h
  have hS : va_S A s.heap s.heap [] := va_S.rf
  have hF : fr [(27, 28)] [] C C := fr_rf
  have hl := lv_entry ([.ref (a 3), .int x1]) (n := 5) (Nat.le_of_ble_eq_true rfl)
  rw [lg_entry_eq]
  generalize (lg_sl ([.ref (a 3), .int x1]) ++ List.replicate (5 - (lg_sl ([.ref (a 3), .int x1])).length) Slot.unset).toArray = ls at hl ⊢
  have hl : lv_has ls 5 [(0, .ref (a 3)), (1, .int x1)] := hl
  refine oh_genQ (fun Q hQ => ?_)
  refine lv_iconst (v := 0) hx hb dX5_spread_0 (by decide) ?_
  refine lv_istore_n (lv' := [(2, .int 0), (0, .ref (a 3)), (1, .int x1)]) hx hb dX5_spread_1 rfl hl (by decide) rfl (fun ls hl => ?_)
  have L_2 : ∀ (d : Nat) (K2 : Nat → va_E) (z2_2 : Int32) (H : Heap) (locs : List Loc) (ls : Array Slot), (16 - z2_2.toInt).toNat = d → rg z2_2 0 16 → TyX a E K2 → fr [(27, 28)] [] C K2 → fr [(27, 28)] [] C K2 → va_P D vwCl (oh_W 35 a K2) H → va_D A (oh_W 35 a K2) → va_S A s.heap H locs → lv_has ls 5 [(2, .int z2_2), (0, .ref (a 3)), (1, .int x1)] → W p l e ({ frames := 2, cells := 0, slots := 0, locals := 45 }) s m (([.ref (a 3), .int x1] : List Value).toArray) below meth c H locs 0 0 Q (F0 m 2 ls []) := by
    intro d
    induction d using Nat.strongRecOn with
    | ind d ih_2 =>
    intro K2 z2_2 H locs ls hd_2 hz2_2 hT hF hLF_2 hP hD hS hl
    have t_1 := hT
    refine lv_iload_n hx hb dX5_spread_2 rfl (lv_at hl 0 rfl) ?_
    refine lv_bipush (v := 16) hx hb dX5_spread_3 (by decide) ?_
    refine lv_icmp_ge (tgt := 22) hx hb dX5_spread_5 (by decide) (fun (c_2 : (16 : Int32) ≤ z2_2) => ?_) (fun (c_2 : ¬ ((16 : Int32) ≤ z2_2)) => ?_)
    · refine lv_aload_n hx hb dX5_spread_22 rfl (lv_at hl 1 rfl) ?_
      refine va_get (D := D) (ci := 5) (v := .ref (a 27)) (C := RX5) (T := TX5) (N := 7) hx hb htg ig_5 hown hK hP 3 (oh_wg (by decide) (sX_3 hT)) rfl 5 (by decide) (htg _ q_174) (fun _ h9 => h9) rfl dX5_spread_23 ?_
      refine lv_iload_n hx hb dX5_spread_26 rfl (lv_at hl 2 rfl) ?_
      refine lv_iconst (v := 0) hx hb dX5_spread_27 (by decide) ?_
      have n_3 : vp_in x1 16 := (rg_in hx1 (by decide))
      refine th_iast (T := TyX a E) (Rl := fr [(27, 28)] [] C) hx hb hK hP hD hS 27 (by decide) (sX_27 hT) n_3 (hT.up 27 (tA_upd (tX_27 hT) tA_any)) (fr_st hF (by decide) (by decide)) dX5_spread_28 (fun C_4 H locs e_5 hT hF hP hD hS => ?_)
      have t_6 := hT
      refine lv_iconst (v := 1) hx hb dX5_spread_29 (by decide) ?_
      refine lv_istore_n (lv' := [(2, .int 1), (0, .ref (a 3)), (1, .int x1)]) hx hb dX5_spread_30 rfl hl (by decide) rfl (fun ls hl => ?_)
      refine lv_iconst (v := 0) hx hb dX5_spread_31 (by decide) ?_
      refine lv_istore_n (lv' := [(3, .int 0), (2, .int 1), (0, .ref (a 3)), (1, .int x1)]) hx hb dX5_spread_32 rfl hl (by decide) rfl (fun ls hl => ?_)
      have L_33 : ∀ (d : Nat) (K33 : Nat → va_E) (z33_3 : Int32) (z33_2 : Int32) (H : Heap) (locs : List Loc) (ls : Array Slot), (16 - z33_3.toInt).toNat = d → rg z33_3 0 16 → TyX a E K33 → fr [(27, 28)] [] C K33 → fr [(27, 28)] [] C_4 K33 → va_P D vwCl (oh_W 35 a K33) H → va_D A (oh_W 35 a K33) → va_S A s.heap H locs → lv_has ls 5 [(3, .int z33_3), (2, .int z33_2), (0, .ref (a 3)), (1, .int x1)] → W p l e ({ frames := 2, cells := 0, slots := 0, locals := 45 }) s m (([.ref (a 3), .int x1] : List Value).toArray) below meth c H locs 0 0 Q (F0 m 33 ls []) := by
        intro d
        induction d using Nat.strongRecOn with
        | ind d ih_33 =>
        intro K33 z33_3 z33_2 H locs ls hd_33 hz33_3 hT hF hLF_33 hP hD hS hl
        have t_7 := hT
        refine lv_iload_n hx hb dX5_spread_33 rfl (lv_at hl 0 rfl) ?_
        refine lv_bipush (v := 16) hx hb dX5_spread_34 (by decide) ?_
        refine lv_icmp_ge (tgt := 96) hx hb dX5_spread_36 (by decide) (fun (c_8 : (16 : Int32) ≤ z33_3) => ?_) (fun (c_8 : ¬ ((16 : Int32) ≤ z33_3)) => ?_)
        · rw [hQ]
          exact W.vret hx hb hr (fun t ht hW => ⟨⟨K33, rfl, ⟨hT, hF, trivial⟩, ⟨by rw [ht]; exact hP, hD⟩⟩, hS.F ht⟩) hS.2.2 dX5_spread_96
        · refine lv_iload_n hx hb dX5_spread_39 rfl (lv_at hl 1 rfl) ?_
          refine lv_if_eq (tgt := 96) hx hb dX5_spread_40 (by decide) (fun (c_9 : z33_2 = 0) => ?_) (fun (c_9 : ¬ (z33_2 = 0)) => ?_)
          · rw [hQ]
            exact W.vret hx hb hr (fun t ht hW => ⟨⟨K33, rfl, ⟨hT, hF, trivial⟩, ⟨by rw [ht]; exact hP, hD⟩⟩, hS.F ht⟩) hS.2.2 dX5_spread_96
          · refine lv_iconst (v := 0) hx hb dX5_spread_43 (by decide) ?_
            refine lv_istore_n (lv' := [(2, .int 0), (3, .int z33_3), (0, .ref (a 3)), (1, .int x1)]) hx hb dX5_spread_44 rfl hl (by decide) rfl (fun ls hl => ?_)
            refine lv_iconst (v := 0) hx hb dX5_spread_45 (by decide) ?_
            refine lv_istore (lv' := [(4, .int 0), (2, .int 0), (3, .int z33_3), (0, .ref (a 3)), (1, .int x1)]) hx hb dX5_spread_46 hl (by decide) rfl (fun ls hl => ?_)
            have L_48 : ∀ (d : Nat) (K48 : Nat → va_E) (z48_4 : Int32) (z48_2 : Int32) (H : Heap) (locs : List Loc) (ls : Array Slot), (24 - z48_4.toInt).toNat = d → rg z48_4 0 24 → TyX a E K48 → fr [(27, 28)] [] C K48 → fr [(27, 28)] [] K33 K48 → va_P D vwCl (oh_W 35 a K48) H → va_D A (oh_W 35 a K48) → va_S A s.heap H locs → lv_has ls 5 [(4, .int z48_4), (2, .int z48_2), (3, .int z33_3), (0, .ref (a 3)), (1, .int x1)] → W p l e ({ frames := 2, cells := 0, slots := 0, locals := 45 }) s m (([.ref (a 3), .int x1] : List Value).toArray) below meth c H locs 0 0 Q (F0 m 48 ls []) := by
              intro d
              induction d using Nat.strongRecOn with
              | ind d ih_48 =>
              intro K48 z48_4 z48_2 H locs ls hd_48 hz48_4 hT hF hLF_48 hP hD hS hl
              have t_10 := hT
              refine lv_iload hx hb dX5_spread_48 (lv_at hl 0 rfl) ?_
              refine lv_aload_n hx hb dX5_spread_50 rfl (lv_at hl 3 rfl) ?_
              refine va_get (D := D) (ci := 5) (v := .ref (a 1)) (C := RX5) (T := TX5) (N := 7) hx hb htg ig_5 hown hK hP 3 (oh_wg (by decide) (sX_3 hT)) rfl 0 (by decide) (htg _ q_167) (fun _ h9 => h9) rfl dX5_spread_51 ?_
              refine va_get (D := D) (ci := 0) (v := .ref (a 10)) (C := RX0) (T := TX0) (N := 8) hx hb htg ig_0 hown hK hP 1 (oh_wg (by decide) (sX_1 hT)) rfl 0 (by decide) (htg _ q_99) (fun _ h9 => h9) rfl dX5_spread_54 ?_
              refine lv_iconst (v := 0) hx hb dX5_spread_57 (by decide) ?_
              refine th_iald hx hb hK hP 10 (by decide) (Eq.trans (Eq.trans (hLF_48.1 10 rfl (by decide)) (Eq.trans (hLF_33.1 10 rfl (by decide)) (Eq.trans (th_un e_5 (by decide)) (hLF_2.1 10 rfl (by decide))))) (sX_10 hT0)) (rg_in (rg_c (v := 0) (lo := 0) (hi := 0) (by decide)) (by decide)) dX5_spread_58 ?_
              refine lv_icmp_ge (tgt := 90) hx hb dX5_spread_59 (by decide) (fun (c_11 : (ga (C 10) ((0 : Int32)).toNatClampNeg) ≤ z48_4) => ?_) (fun (c_11 : ¬ ((ga (C 10) ((0 : Int32)).toNatClampNeg) ≤ z48_4)) => ?_)
              · refine lv_iinc (v := z33_3 + 1) (lv' := [(3, .int (z33_3 + 1)), (4, .int z48_4), (2, .int z48_2), (0, .ref (a 3)), (1, .int x1)]) hx hb dX5_spread_90 hl (k := 2) rfl (by rfl) (by decide) rfl (fun ls hl => ?_)
                refine lv_goto (tgt := 33) hx hb dX5_spread_93 (by decide) ?_
                exact ih_33 _ (hd_33 ▸ mu_up 16 (rn_ltu (u' := 15) (Int32.not_le.mp c_8) hz33_3 (rg_c (v := 16) (lo := 16) (hi := 16) (by decide)) (by decide)) (by decide)) K48 (z33_3 + 1) z48_2 _ _ ls rfl (rg_w (rg_add (lo := 1) (hi := 16) (rn_ltu (u' := 15) (Int32.not_le.mp c_8) hz33_3 (rg_c (v := 16) (lo := 16) (hi := 16) (by decide)) (by decide)) (rg_c (v := 1) (lo := 1) (hi := 1) (by decide)) (by decide)) (by decide)) hT hF (fr_tr hLF_33 hLF_48 (by decide) (by decide)) hP hD hS (lv_sub hl [0, 2, 3, 4] rfl)
              · refine lv_aload_n hx hb dX5_spread_62 rfl (lv_at hl 3 rfl) ?_
                refine va_get (D := D) (ci := 5) (v := .ref (a 24)) (C := RX5) (T := TX5) (N := 7) hx hb htg ig_5 hown hK hP 3 (oh_wg (by decide) (sX_3 hT)) rfl 2 (by decide) (htg _ q_170) (fun _ h9 => h9) rfl dX5_spread_63 ?_
                refine lv_iload hx hb dX5_spread_66 (lv_at hl 0 rfl) ?_
                have n_12 : vp_in z48_4 24 := (rg_in (rn_ltu (u' := 23) (Int32.not_le.mp c_11) hz48_4 (tA_rdc (lo := 0) (hi := 24) (tX_10 hT0) (rg_in (rg_c (v := 0) (lo := 0) (hi := 0) (by decide)) (by decide)) (show _ = 0 by decide) (by decide)) (by decide)) (by decide))
                refine th_iald hx hb hK hP 24 (by decide) (Eq.trans (Eq.trans (hLF_48.1 24 rfl (by decide)) (Eq.trans (hLF_33.1 24 rfl (by decide)) (Eq.trans (th_un e_5 (by decide)) (hLF_2.1 24 rfl (by decide))))) (sX_24 hT0)) n_12 dX5_spread_68 ?_
                refine lv_iconst (v := (-1)) hx hb dX5_spread_69 (by decide) ?_
                refine lv_icmp_eq (tgt := 84) hx hb dX5_spread_70 (by decide) (fun (c_13 : (ga (C 24) (z48_4).toNatClampNeg) = (-1)) => ?_) (fun (c_13 : ¬ ((ga (C 24) (z48_4).toNatClampNeg) = (-1))) => ?_)
                · refine lv_iinc (v := z48_4 + 1) (lv' := [(4, .int (z48_4 + 1)), (2, .int z48_2), (3, .int z33_3), (0, .ref (a 3)), (1, .int x1)]) hx hb dX5_spread_84 hl (k := 0) rfl (by rfl) (by decide) rfl (fun ls hl => ?_)
                  refine lv_goto (tgt := 48) hx hb dX5_spread_87 (by decide) ?_
                  exact ih_48 _ (hd_48 ▸ mu_up 24 (rn_ltu (u' := 23) (Int32.not_le.mp c_11) hz48_4 (tA_rdc (lo := 0) (hi := 24) (tX_10 hT0) (rg_in (rg_c (v := 0) (lo := 0) (hi := 0) (by decide)) (by decide)) (show _ = 0 by decide) (by decide)) (by decide)) (by decide)) K48 (z48_4 + 1) z48_2 _ _ ls rfl (rg_w (rg_add (lo := 1) (hi := 24) (rn_ltu (u' := 23) (Int32.not_le.mp c_11) hz48_4 (tA_rdc (lo := 0) (hi := 24) (tX_10 hT0) (rg_in (rg_c (v := 0) (lo := 0) (hi := 0) (by decide)) (by decide)) (show _ = 0 by decide) (by decide)) (by decide)) (rg_c (v := 1) (lo := 1) (hi := 1) (by decide)) (by decide)) (by decide)) hT hF hLF_48 hP hD hS (lv_sub hl [0, 1, 2, 3, 4] rfl)
                · refine lv_aload_n hx hb dX5_spread_73 rfl (lv_at hl 3 rfl) ?_
                  refine lv_iload hx hb dX5_spread_74 (lv_at hl 0 rfl) ?_
                  refine tm_V (As := [.int z48_4]) (rest := []) ⟨hx, hb, hml, hown, htg⟩ (c_X5_shorten l D E G _ a K48 hT z48_4 (rg_w (rn_ltu (u' := 23) (Int32.not_le.mp c_11) hz48_4 (tA_rdc (lo := 0) (hi := 24) (tX_10 hT0) (rg_in (rg_c (v := 0) (lo := 0) (hi := 0) (by decide)) (by decide)) (show _ = 0 by decide) (by decide)) (by decide)) (by decide))) (cwV 1 htg (oh_gV q_795 q_797 q_20 q_68 q_798) rfl rfl rfl pdVX5_shorten ⟨Nat.le_of_ble_eq_true rfl, Nat.le_of_ble_eq_true rfl⟩) hK hP hD hG hS hA (va_recv hK hP (ci := 5) (q0 := 3) rfl (oh_wg (by decide) (sX_3 hT))) rfl hl.1 rfl (Nat.le_of_ble_eq_true rfl) dX5_spread_76 ⟨Nat.le_of_ble_eq_true rfl, Nat.le_of_ble_eq_true rfl⟩ (fun r_14 C_15 H locs hq_16 hP hD hS => ?_)
                  obtain ⟨hT, f_17, hq_16⟩ := hq_16
                  have hF := fr_tr hF f_17 (by decide) (by decide)
                  refine W.widen (k := 0) (n := 0) (Nat.le_refl _) (Nat.le_refl _) ?_
                  have t_18 := hT
                  refine lv_if_eq (tgt := 84) hx hb dX5_spread_79 (by decide) (fun (c_19 : r_14 = 0) => ?_) (fun (c_19 : ¬ (r_14 = 0)) => ?_)
                  · refine lv_iinc (v := z48_4 + 1) (lv' := [(4, .int (z48_4 + 1)), (2, .int z48_2), (3, .int z33_3), (0, .ref (a 3)), (1, .int x1)]) hx hb dX5_spread_84 hl (k := 0) rfl (by rfl) (by decide) rfl (fun ls hl => ?_)
                    refine lv_goto (tgt := 48) hx hb dX5_spread_87 (by decide) ?_
                    exact ih_48 _ (hd_48 ▸ mu_up 24 (rn_ltu (u' := 23) (Int32.not_le.mp c_11) hz48_4 (tA_rdc (lo := 0) (hi := 24) (tX_10 hT0) (rg_in (rg_c (v := 0) (lo := 0) (hi := 0) (by decide)) (by decide)) (show _ = 0 by decide) (by decide)) (by decide)) (by decide)) C_15 (z48_4 + 1) z48_2 _ _ ls rfl (rg_w (rg_add (lo := 1) (hi := 24) (rn_ltu (u' := 23) (Int32.not_le.mp c_11) hz48_4 (tA_rdc (lo := 0) (hi := 24) (tX_10 hT0) (rg_in (rg_c (v := 0) (lo := 0) (hi := 0) (by decide)) (by decide)) (show _ = 0 by decide) (by decide)) (by decide)) (rg_c (v := 1) (lo := 1) (hi := 1) (by decide)) (by decide)) (by decide)) hT hF (fr_tr hLF_48 f_17 (by decide) (by decide)) hP hD hS (lv_sub hl [0, 1, 2, 3, 4] rfl)
                  · refine lv_iconst (v := 1) hx hb dX5_spread_82 (by decide) ?_
                    refine lv_istore_n (lv' := [(2, .int 1), (4, .int z48_4), (3, .int z33_3), (0, .ref (a 3)), (1, .int x1)]) hx hb dX5_spread_83 rfl hl (by decide) rfl (fun ls hl => ?_)
                    refine lv_iinc (v := z48_4 + 1) (lv' := [(4, .int (z48_4 + 1)), (2, .int 1), (3, .int z33_3), (0, .ref (a 3)), (1, .int x1)]) hx hb dX5_spread_84 hl (k := 1) rfl (by rfl) (by decide) rfl (fun ls hl => ?_)
                    refine lv_goto (tgt := 48) hx hb dX5_spread_87 (by decide) ?_
                    exact ih_48 _ (hd_48 ▸ mu_up 24 (rn_ltu (u' := 23) (Int32.not_le.mp c_11) hz48_4 (tA_rdc (lo := 0) (hi := 24) (tX_10 hT0) (rg_in (rg_c (v := 0) (lo := 0) (hi := 0) (by decide)) (by decide)) (show _ = 0 by decide) (by decide)) (by decide)) (by decide)) C_15 (z48_4 + 1) 1 _ _ ls rfl (rg_w (rg_add (lo := 1) (hi := 24) (rn_ltu (u' := 23) (Int32.not_le.mp c_11) hz48_4 (tA_rdc (lo := 0) (hi := 24) (tX_10 hT0) (rg_in (rg_c (v := 0) (lo := 0) (hi := 0) (by decide)) (by decide)) (show _ = 0 by decide) (by decide)) (by decide)) (rg_c (v := 1) (lo := 1) (hi := 1) (by decide)) (by decide)) (by decide)) hT hF (fr_tr hLF_48 f_17 (by decide) (by decide)) hP hD hS (lv_sub hl [0, 1, 2, 3, 4] rfl)
            exact L_48 _ K33 0 0 _ _ ls rfl (rg_w (rg_c (v := 0) (lo := 0) (hi := 0) (by decide)) (by decide)) hT hF fr_rf hP hD hS (lv_sub hl [0, 1, 2, 3, 4] rfl)
      exact L_33 _ C_4 0 1 _ _ ls rfl (rg_w (rg_c (v := 0) (lo := 0) (hi := 0) (by decide)) (by decide)) hT hF fr_rf hP hD hS (lv_sub hl [0, 1, 2, 3] rfl)
    · refine lv_aload_n hx hb dX5_spread_8 rfl (lv_at hl 1 rfl) ?_
      refine va_get (D := D) (ci := 5) (v := .ref (a 27)) (C := RX5) (T := TX5) (N := 7) hx hb htg ig_5 hown hK hP 3 (oh_wg (by decide) (sX_3 hT)) rfl 5 (by decide) (htg _ q_174) (fun _ h9 => h9) rfl dX5_spread_9 ?_
      refine lv_iload_n hx hb dX5_spread_12 rfl (lv_at hl 0 rfl) ?_
      refine lv_ldc (v := 1000000000) hx hb hown (htg _ q_794) dX5_spread_13 ?_
      have n_20 : vp_in z2_2 16 := (rg_in (rn_ltu (u' := 15) (Int32.not_le.mp c_2) hz2_2 (rg_c (v := 16) (lo := 16) (hi := 16) (by decide)) (by decide)) (by decide))
      refine th_iast (T := TyX a E) (Rl := fr [(27, 28)] [] C) hx hb hK hP hD hS 27 (by decide) (sX_27 hT) n_20 (hT.up 27 (tA_upd (tX_27 hT) tA_any)) (fr_st hF (by decide) (by decide)) dX5_spread_15 (fun C_21 H locs e_22 hT hF hP hD hS => ?_)
      have t_23 := hT
      refine lv_iinc (v := z2_2 + 1) (lv' := [(2, .int (z2_2 + 1)), (0, .ref (a 3)), (1, .int x1)]) hx hb dX5_spread_16 hl (k := 0) rfl (by rfl) (by decide) rfl (fun ls hl => ?_)
      refine lv_goto (tgt := 2) hx hb dX5_spread_19 (by decide) ?_
      exact ih_2 _ (hd_2 ▸ mu_up 16 (rn_ltu (u' := 15) (Int32.not_le.mp c_2) hz2_2 (rg_c (v := 16) (lo := 16) (hi := 16) (by decide)) (by decide)) (by decide)) C_21 (z2_2 + 1) _ _ ls rfl (rg_w (rg_add (lo := 1) (hi := 16) (rn_ltu (u' := 15) (Int32.not_le.mp c_2) hz2_2 (rg_c (v := 16) (lo := 16) (hi := 16) (by decide)) (by decide)) (rg_c (v := 1) (lo := 1) (hi := 1) (by decide)) (by decide)) (by decide)) hT hF (fr_ste hLF_2 e_22 (by decide) (by decide)) hP hD hS (lv_sub hl [0, 1, 2] rfl)
  exact L_2 _ C 0 _ _ ls rfl (rg_w (rg_c (v := 0) (lo := 0) (hi := 0) (by decide)) (by decide)) hT hF fr_rf hP hD hS (lv_sub hl [0, 1, 2] rfl)

set_option maxHeartbeats 4000000 in
set_option maxRecDepth 100000 in
theorem c_X5_leastCoin (l : Launch) (D : va_G) (E : Nat → ClassId) (G : Nat → Nat) (sz : Nat) (a : Nat → Nat) (C : Nat → va_E) (hT : TyX a E C) (x1 : Int32) (x2 : Int32) (x3 : Int32) (x4 : Int32) (x5 : Int32) (hx1 : rg x1 0 4) (hx3 : rg x3 0 15) (hx4 : rg x4 0 15) : Met l yX5_leastCoin (oh_w yX5_leastCoin cX5_leastCoin 6 (some .int)) ({ frames := 4, cells := 0, slots := 0, locals := 100 }) (oh_Pm D E G [.ref (a 3), .int x1, .int x2, .int x3, .int x4, .int x5] (oh_W 35 a C) sz) (va_Qi (fun r (u : Nat → va_E) => TyX a E u ∧ fr [(9, 10), (24, 28)] [] C u ∧ True) (oh_B D (va_A (oh_W 35 a C) sz) (fun u => oh_W 35 a u)) (va_A (oh_W 35 a C) sz)) 0 0 (va_A (oh_W 35 a C) sz) := by
  refine Met.ofW (cc := cX5_leastCoin) (maxL := 6) (ret := (some .int)) (by decide) rfl ?_
  intro p e s m args below meth c s₁ B hml hv
  obtain ⟨rfl, hsz, hP, hK, hD0, hG⟩ := hv
  have hx := B.exec
  have hb := B.bytes
  have hr := B.returns
  have hts := atoms_spec (ws := (oh_w yX5_leastCoin cX5_leastCoin 6 (some .int))) B.pre
  have htg : ∀ w ∈ oh_t, w.before _ s = true := fun w h => hts w (List.mem_cons_of_mem _ h)
  have hown : s.vm.findClass RX5 = some m.cls := findClass_of_methodNamed B.named
  have hlocks := B.notSynchronized
  have hT0 := hT
  subst hsz
  have hD := hD0.self (sz := s.heap.size)
  generalize hAe : va_A (oh_W 35 a C) s.heap.size = A at hD hG ⊢
  have hA : ∀ q : Nat, s.heap.size ≤ q → A q := fun q h => by rw [← hAe]; exact Or.inr h
  have hS : va_S A s.heap s.heap [] := va_S.rf
  have hF : fr [(9, 10), (24, 28)] [] C C := fr_rf
  have hl := lv_entry ([.ref (a 3), .int x1, .int x2, .int x3, .int x4, .int x5]) (n := 6) (Nat.le_of_ble_eq_true rfl)
  rw [lg_entry_eq]
  generalize (lg_sl ([.ref (a 3), .int x1, .int x2, .int x3, .int x4, .int x5]) ++ List.replicate (6 - (lg_sl ([.ref (a 3), .int x1, .int x2, .int x3, .int x4, .int x5])).length) Slot.unset).toArray = ls at hl ⊢
  have hl : lv_has ls 6 [(0, .ref (a 3)), (1, .int x1), (2, .int x2), (3, .int x3), (4, .int x4), (5, .int x5)] := hl
  refine oh_genQ (fun Q hQ => ?_)
  refine lv_aload_n hx hb dX5_leastCoin_0 rfl (lv_at hl 0 rfl) ?_
  refine lv_iload_n hx hb dX5_leastCoin_1 rfl (lv_at hl 1 rfl) ?_
  refine lv_iload_n hx hb dX5_leastCoin_2 rfl (lv_at hl 2 rfl) ?_
  refine tm_Vv (As := [.int x1, .int x2]) (rest := []) ⟨hx, hb, hml, hown, htg⟩ (c_X5_survey l D E G _ a C hT x1 x2 (rg_w hx1 (by decide))) (cwV 2 htg (oh_gV q_784 q_751 q_752 q_68 q_753) rfl rfl rfl pdVX5_survey ⟨Nat.le_of_ble_eq_true rfl, Nat.le_of_ble_eq_true rfl⟩) hK hP hD hG hS hA (va_recv hK hP (ci := 5) (q0 := 3) rfl (oh_wg (by decide) (sX_3 hT))) rfl hl.1 rfl (Nat.le_of_ble_eq_true rfl) dX5_leastCoin_3 ⟨Nat.le_of_ble_eq_true rfl, Nat.le_of_ble_eq_true rfl⟩ (fun C_2 H locs hq_3 hP hD hS => ?_)
  obtain ⟨hT, f_4, hq_3⟩ := hq_3
  have hF := fr_tr hF f_4 (by decide) (by decide)
  refine W.widen (k := 0) (n := 0) (Nat.le_refl _) (Nat.le_refl _) ?_
  have t_5 := hT
  refine lv_aload_n hx hb dX5_leastCoin_6 rfl (lv_at hl 0 rfl) ?_
  refine lv_iload hx hb dX5_leastCoin_7 (lv_at hl 5 rfl) ?_
  refine tm_Vv (As := [.int x5]) (rest := []) ⟨hx, hb, hml, hown, htg⟩ (c_X5_priceByCoin l D E G _ a C_2 hT x5) (cwV 1 htg (oh_gV q_785 q_787 q_18 q_68 q_788) rfl rfl rfl pdVX5_priceByCoin ⟨Nat.le_of_ble_eq_true rfl, Nat.le_of_ble_eq_true rfl⟩) hK hP hD hG hS hA (va_recv hK hP (ci := 5) (q0 := 3) rfl (oh_wg (by decide) (sX_3 hT))) rfl hl.1 rfl (Nat.le_of_ble_eq_true rfl) dX5_leastCoin_9 ⟨Nat.le_of_ble_eq_true rfl, Nat.le_of_ble_eq_true rfl⟩ (fun C_7 H locs hq_8 hP hD hS => ?_)
  obtain ⟨hT, f_9, hq_8⟩ := hq_8
  have hF := fr_tr hF f_9 (by decide) (by decide)
  refine W.widen (k := 0) (n := 0) (Nat.le_refl _) (Nat.le_refl _) ?_
  have t_10 := hT
  refine lv_aload_n hx hb dX5_leastCoin_12 rfl (lv_at hl 0 rfl) ?_
  refine lv_iload_n hx hb dX5_leastCoin_13 rfl (lv_at hl 3 rfl) ?_
  refine tm_Vv (As := [.int x3]) (rest := []) ⟨hx, hb, hml, hown, htg⟩ (c_X5_spread l D E G _ a C_7 hT x3 (rg_w hx3 (by decide))) (cwV 1 htg (oh_gV q_790 q_792 q_19 q_68 q_793) rfl rfl rfl pdVX5_spread ⟨Nat.le_of_ble_eq_true rfl, Nat.le_of_ble_eq_true rfl⟩) hK hP hD hG hS hA (va_recv hK hP (ci := 5) (q0 := 3) rfl (oh_wg (by decide) (sX_3 hT))) rfl hl.1 rfl (Nat.le_of_ble_eq_true rfl) dX5_leastCoin_14 ⟨Nat.le_of_ble_eq_true rfl, Nat.le_of_ble_eq_true rfl⟩ (fun C_12 H locs hq_13 hP hD hS => ?_)
  obtain ⟨hT, f_14, hq_13⟩ := hq_13
  have hF := fr_tr hF f_14 (by decide) (by decide)
  refine W.widen (k := 0) (n := 0) (Nat.le_refl _) (Nat.le_refl _) ?_
  have t_15 := hT
  refine lv_aload_n hx hb dX5_leastCoin_17 rfl (lv_at hl 0 rfl) ?_
  refine va_get (D := D) (ci := 5) (v := .ref (a 27)) (C := RX5) (T := TX5) (N := 7) hx hb htg ig_5 hown hK hP 3 (oh_wg (by decide) (sX_3 hT)) rfl 5 (by decide) (htg _ q_174) (fun _ h9 => h9) rfl dX5_leastCoin_18 ?_
  refine lv_iload hx hb dX5_leastCoin_21 (lv_at hl 4 rfl) ?_
  have n_16 : vp_in x4 16 := (rg_in hx4 (by decide))
  refine th_iald hx hb hK hP 27 (by decide) (sX_27 hT) n_16 dX5_leastCoin_23 ?_
  refine lv_ldc (v := 1000000000) hx hb hown (htg _ q_794) dX5_leastCoin_24 ?_
  refine lv_icmp_ne (tgt := 34) hx hb dX5_leastCoin_26 (by decide) (fun (c_17 : ¬ ((ga (C_12 27) (x4).toNatClampNeg) = 1000000000)) => ?_) (fun (c_17 : (ga (C_12 27) (x4).toNatClampNeg) = 1000000000) => ?_)
  · refine lv_aload_n hx hb dX5_leastCoin_34 rfl (lv_at hl 0 rfl) ?_
    refine va_get (D := D) (ci := 5) (v := .ref (a 27)) (C := RX5) (T := TX5) (N := 7) hx hb htg ig_5 hown hK hP 3 (oh_wg (by decide) (sX_3 hT)) rfl 5 (by decide) (htg _ q_174) (fun _ h9 => h9) rfl dX5_leastCoin_35 ?_
    refine lv_iload hx hb dX5_leastCoin_38 (lv_at hl 4 rfl) ?_
    have n_18 : vp_in x4 16 := (rg_in hx4 (by decide))
    refine th_iald hx hb hK hP 27 (by decide) (sX_27 hT) n_18 dX5_leastCoin_40 ?_
    refine lv_iload hx hb dX5_leastCoin_41 (lv_at hl 5 rfl) ?_
    refine lv_aload_n hx hb dX5_leastCoin_43 rfl (lv_at hl 0 rfl) ?_
    refine va_get (D := D) (ci := 5) (v := .ref (a 9)) (C := RX5) (T := TX5) (N := 7) hx hb htg ig_5 hown hK hP 3 (oh_wg (by decide) (sX_3 hT)) rfl 1 (by decide) (htg _ q_168) (fun _ h9 => h9) rfl dX5_leastCoin_44 ?_
    refine va_get (D := D) (ci := 1) (v := .int (gi (C_2 9) 4)) (C := RX1) (T := TX1) (N := 5) hx hb htg ig_1 hown hK hP 9 (oh_wg (by decide) (sX_9 hT)) rfl 4 (by decide) (htg _ q_153) (fun _ h9 => h9) (oh_fv (c := C_12 9) (j := 4) rfl (Eq.trans (congrArg (fun z => gi z 4) (f_14.1 9 rfl (by decide))) (congrArg (fun z => gi z 4) (f_9.1 9 rfl (by decide))))) dX5_leastCoin_47 ?_
    refine lv_imul hx hb dX5_leastCoin_50 ?_
    refine lv_iadd hx hb dX5_leastCoin_51 ?_
    rw [hQ]
    exact W.iret (v := (ga (C_12 27) (x4).toNatClampNeg) + (x5 * (gi (C_2 9) 4))) hx hb hr (fun t ht hW => ⟨⟨(ga (C_12 27) (x4).toNatClampNeg) + (x5 * (gi (C_2 9) 4)), C_12, rfl, ⟨hT, hF, trivial⟩, ⟨by rw [ht]; exact hP, hD⟩⟩, hS.F ht⟩) hS.2.2 dX5_leastCoin_52
  · refine lv_ldc (v := 1000000000) hx hb hown (htg _ q_794) dX5_leastCoin_29 ?_
    refine lv_goto (tgt := 52) hx hb dX5_leastCoin_31 (by decide) ?_
    rw [hQ]
    exact W.iret (v := 1000000000) hx hb hr (fun t ht hW => ⟨⟨1000000000, C_12, rfl, ⟨hT, hF, trivial⟩, ⟨by rw [ht]; exact hP, hD⟩⟩, hS.F ht⟩) hS.2.2 dX5_leastCoin_52

set_option maxHeartbeats 4000000 in
set_option maxRecDepth 100000 in
theorem c_X5_leastDays (l : Launch) (D : va_G) (E : Nat → ClassId) (G : Nat → Nat) (sz : Nat) (a : Nat → Nat) (C : Nat → va_E) (hT : TyX a E C) (x1 : Int32) (x2 : Int32) (x3 : Int32) (x4 : Int32) (hx1 : rg x1 0 4) (hx3 : rg x3 0 15) (hx4 : rg x4 0 15) : Met l yX5_leastDays (oh_w yX5_leastDays cX5_leastDays 6 (some .int)) ({ frames := 4, cells := 0, slots := 0, locals := 100 }) (oh_Pm D E G [.ref (a 3), .int x1, .int x2, .int x3, .int x4] (oh_W 35 a C) sz) (va_Qi (fun r (u : Nat → va_E) => TyX a E u ∧ fr [(9, 10), (24, 28)] [] C u ∧ True) (oh_B D (va_A (oh_W 35 a C) sz) (fun u => oh_W 35 a u)) (va_A (oh_W 35 a C) sz)) 0 0 (va_A (oh_W 35 a C) sz) := by
  refine Met.ofW (cc := cX5_leastDays) (maxL := 6) (ret := (some .int)) (by decide) rfl ?_
  intro p e s m args below meth c s₁ B hml hv
  obtain ⟨rfl, hsz, hP, hK, hD0, hG⟩ := hv
  have hx := B.exec
  have hb := B.bytes
  have hr := B.returns
  have hts := atoms_spec (ws := (oh_w yX5_leastDays cX5_leastDays 6 (some .int))) B.pre
  have htg : ∀ w ∈ oh_t, w.before _ s = true := fun w h => hts w (List.mem_cons_of_mem _ h)
  have hown : s.vm.findClass RX5 = some m.cls := findClass_of_methodNamed B.named
  have hlocks := B.notSynchronized
  have hT0 := hT
  subst hsz
  have hD := hD0.self (sz := s.heap.size)
  generalize hAe : va_A (oh_W 35 a C) s.heap.size = A at hD hG ⊢
  have hA : ∀ q : Nat, s.heap.size ≤ q → A q := fun q h => by rw [← hAe]; exact Or.inr h
  have hS : va_S A s.heap s.heap [] := va_S.rf
  have hF : fr [(9, 10), (24, 28)] [] C C := fr_rf
  have hl := lv_entry ([.ref (a 3), .int x1, .int x2, .int x3, .int x4]) (n := 6) (Nat.le_of_ble_eq_true rfl)
  rw [lg_entry_eq]
  generalize (lg_sl ([.ref (a 3), .int x1, .int x2, .int x3, .int x4]) ++ List.replicate (6 - (lg_sl ([.ref (a 3), .int x1, .int x2, .int x3, .int x4])).length) Slot.unset).toArray = ls at hl ⊢
  have hl : lv_has ls 6 [(0, .ref (a 3)), (1, .int x1), (2, .int x2), (3, .int x3), (4, .int x4)] := hl
  refine oh_genQ (fun Q hQ => ?_)
  refine lv_aload_n hx hb dX5_leastDays_0 rfl (lv_at hl 0 rfl) ?_
  refine lv_iload_n hx hb dX5_leastDays_1 rfl (lv_at hl 1 rfl) ?_
  refine lv_iload_n hx hb dX5_leastDays_2 rfl (lv_at hl 2 rfl) ?_
  refine tm_Vv (As := [.int x1, .int x2]) (rest := []) ⟨hx, hb, hml, hown, htg⟩ (c_X5_survey l D E G _ a C hT x1 x2 (rg_w hx1 (by decide))) (cwV 2 htg (oh_gV q_784 q_751 q_752 q_68 q_753) rfl rfl rfl pdVX5_survey ⟨Nat.le_of_ble_eq_true rfl, Nat.le_of_ble_eq_true rfl⟩) hK hP hD hG hS hA (va_recv hK hP (ci := 5) (q0 := 3) rfl (oh_wg (by decide) (sX_3 hT))) rfl hl.1 rfl (Nat.le_of_ble_eq_true rfl) dX5_leastDays_3 ⟨Nat.le_of_ble_eq_true rfl, Nat.le_of_ble_eq_true rfl⟩ (fun C_2 H locs hq_3 hP hD hS => ?_)
  obtain ⟨hT, f_4, hq_3⟩ := hq_3
  have hF := fr_tr hF f_4 (by decide) (by decide)
  refine W.widen (k := 0) (n := 0) (Nat.le_refl _) (Nat.le_refl _) ?_
  have t_5 := hT
  refine lv_iconst (v := 0) hx hb dX5_leastDays_6 (by decide) ?_
  refine lv_istore (lv' := [(5, .int 0), (0, .ref (a 3)), (1, .int x1), (2, .int x2), (3, .int x3), (4, .int x4)]) hx hb dX5_leastDays_7 hl (by decide) rfl (fun ls hl => ?_)
  have L_9 : ∀ (d : Nat) (K9 : Nat → va_E) (z9_5 : Int32) (H : Heap) (locs : List Loc) (ls : Array Slot), (24 - z9_5.toInt).toNat = d → rg z9_5 0 24 → TyX a E K9 → fr [(9, 10), (24, 28)] [] C K9 → fr [(26, 27)] [] C_2 K9 → va_P D vwCl (oh_W 35 a K9) H → va_D A (oh_W 35 a K9) → va_S A s.heap H locs → lv_has ls 6 [(5, .int z9_5), (0, .ref (a 3)), (1, .int x1), (2, .int x2), (3, .int x3), (4, .int x4)] → W p l e ({ frames := 4, cells := 0, slots := 0, locals := 100 }) s m (([.ref (a 3), .int x1, .int x2, .int x3, .int x4] : List Value).toArray) below meth c H locs 0 0 Q (F0 m 9 ls []) := by
    intro d
    induction d using Nat.strongRecOn with
    | ind d ih_9 =>
    intro K9 z9_5 H locs ls hd_9 hz9_5 hT hF hLF_9 hP hD hS hl
    have t_6 := hT
    refine lv_iload hx hb dX5_leastDays_9 (lv_at hl 0 rfl) ?_
    refine lv_aload_n hx hb dX5_leastDays_11 rfl (lv_at hl 1 rfl) ?_
    refine va_get (D := D) (ci := 5) (v := .ref (a 1)) (C := RX5) (T := TX5) (N := 7) hx hb htg ig_5 hown hK hP 3 (oh_wg (by decide) (sX_3 hT)) rfl 0 (by decide) (htg _ q_167) (fun _ h9 => h9) rfl dX5_leastDays_12 ?_
    refine va_get (D := D) (ci := 0) (v := .ref (a 10)) (C := RX0) (T := TX0) (N := 8) hx hb htg ig_0 hown hK hP 1 (oh_wg (by decide) (sX_1 hT)) rfl 0 (by decide) (htg _ q_99) (fun _ h9 => h9) rfl dX5_leastDays_15 ?_
    refine lv_iconst (v := 0) hx hb dX5_leastDays_18 (by decide) ?_
    refine th_iald hx hb hK hP 10 (by decide) (Eq.trans (Eq.trans (hLF_9.1 10 rfl (by decide)) (f_4.1 10 rfl (by decide))) (sX_10 hT0)) (rg_in (rg_c (v := 0) (lo := 0) (hi := 0) (by decide)) (by decide)) dX5_leastDays_19 ?_
    refine lv_icmp_ge (tgt := 42) hx hb dX5_leastDays_20 (by decide) (fun (c_7 : (ga (C 10) ((0 : Int32)).toNatClampNeg) ≤ z9_5) => ?_) (fun (c_7 : ¬ ((ga (C 10) ((0 : Int32)).toNatClampNeg) ≤ z9_5)) => ?_)
    · refine lv_aload_n hx hb dX5_leastDays_42 rfl (lv_at hl 1 rfl) ?_
      refine lv_iload_n hx hb dX5_leastDays_43 rfl (lv_at hl 4 rfl) ?_
      refine tm_Vv (As := [.int x3]) (rest := []) ⟨hx, hb, hml, hown, htg⟩ (c_X5_spread l D E G _ a K9 hT x3 (rg_w hx3 (by decide))) (cwV 1 htg (oh_gV q_790 q_792 q_19 q_68 q_793) rfl rfl rfl pdVX5_spread ⟨Nat.le_of_ble_eq_true rfl, Nat.le_of_ble_eq_true rfl⟩) hK hP hD hG hS hA (va_recv hK hP (ci := 5) (q0 := 3) rfl (oh_wg (by decide) (sX_3 hT))) rfl hl.1 rfl (Nat.le_of_ble_eq_true rfl) dX5_leastDays_44 ⟨Nat.le_of_ble_eq_true rfl, Nat.le_of_ble_eq_true rfl⟩ (fun C_9 H locs hq_10 hP hD hS => ?_)
      obtain ⟨hT, f_11, hq_10⟩ := hq_10
      have hF := fr_tr hF f_11 (by decide) (by decide)
      refine W.widen (k := 0) (n := 0) (Nat.le_refl _) (Nat.le_refl _) ?_
      have t_12 := hT
      refine lv_aload_n hx hb dX5_leastDays_47 rfl (lv_at hl 1 rfl) ?_
      refine va_get (D := D) (ci := 5) (v := .ref (a 27)) (C := RX5) (T := TX5) (N := 7) hx hb htg ig_5 hown hK hP 3 (oh_wg (by decide) (sX_3 hT)) rfl 5 (by decide) (htg _ q_174) (fun _ h9 => h9) rfl dX5_leastDays_48 ?_
      refine lv_iload hx hb dX5_leastDays_51 (lv_at hl 5 rfl) ?_
      have n_13 : vp_in x4 16 := (rg_in hx4 (by decide))
      refine th_iald hx hb hK hP 27 (by decide) (sX_27 hT) n_13 dX5_leastDays_53 ?_
      rw [hQ]
      exact W.iret (v := ga (C_9 27) (x4).toNatClampNeg) hx hb hr (fun t ht hW => ⟨⟨ga (C_9 27) (x4).toNatClampNeg, C_9, rfl, ⟨hT, hF, trivial⟩, ⟨by rw [ht]; exact hP, hD⟩⟩, hS.F ht⟩) hS.2.2 dX5_leastDays_54
    · refine lv_aload_n hx hb dX5_leastDays_23 rfl (lv_at hl 1 rfl) ?_
      refine va_get (D := D) (ci := 5) (v := .ref (a 26)) (C := RX5) (T := TX5) (N := 7) hx hb htg ig_5 hown hK hP 3 (oh_wg (by decide) (sX_3 hT)) rfl 4 (by decide) (htg _ q_173) (fun _ h9 => h9) rfl dX5_leastDays_24 ?_
      refine lv_iload hx hb dX5_leastDays_27 (lv_at hl 0 rfl) ?_
      refine lv_aload_n hx hb dX5_leastDays_29 rfl (lv_at hl 1 rfl) ?_
      refine lv_iload hx hb dX5_leastDays_30 (lv_at hl 0 rfl) ?_
      refine tq_V (As := [.int z9_5]) (rest := [.int z9_5, .ref (a 26)]) (ws := (oh_W 35 a K9)) ⟨hx, hb, hml, hown, htg⟩ (c_X5_daysOf l D E G a K9 hT z9_5 (rg_w (rn_ltu (u' := 23) (Int32.not_le.mp c_7) hz9_5 (tA_rdc (lo := 0) (hi := 24) (tX_10 hT0) (rg_in (rg_c (v := 0) (lo := 0) (hi := 0) (by decide)) (by decide)) (show _ = 0 by decide) (by decide)) (by decide)) (by decide))) (cwV 1 htg (oh_gV q_812 q_768 q_769 q_68 q_770) rfl rfl rfl pdVX5_daysOf ⟨Nat.le_of_ble_eq_true rfl, Nat.le_of_ble_eq_true rfl⟩) hK hP hG hS (va_recv hK hP (ci := 5) (q0 := 3) rfl (oh_wg (by decide) (sX_3 hT))) rfl hl.1 rfl (Nat.le_of_ble_eq_true rfl) dX5_leastDays_32 ⟨Nat.le_of_ble_eq_true rfl, Nat.le_of_ble_eq_true rfl⟩ (fun r_14 hq_15 => ?_)
      have n_16 : vp_in z9_5 24 := (rg_in (rn_ltu (u' := 23) (Int32.not_le.mp c_7) hz9_5 (tA_rdc (lo := 0) (hi := 24) (tX_10 hT0) (rg_in (rg_c (v := 0) (lo := 0) (hi := 0) (by decide)) (by decide)) (show _ = 0 by decide) (by decide)) (by decide)) (by decide))
      refine th_iast (T := TyX a E) (Rl := fr [(9, 10), (24, 28)] [] C) hx hb hK hP hD hS 26 (by decide) (sX_26 hT) n_16 (hT.up 26 (tA_upd (tX_26 hT) tA_any)) (fr_st hF (by decide) (by decide)) dX5_leastDays_35 (fun C_17 H locs e_18 hT hF hP hD hS => ?_)
      have t_19 := hT
      refine lv_iinc (v := z9_5 + 1) (lv' := [(5, .int (z9_5 + 1)), (0, .ref (a 3)), (1, .int x1), (2, .int x2), (3, .int x3), (4, .int x4)]) hx hb dX5_leastDays_36 hl (k := 0) rfl (by rfl) (by decide) rfl (fun ls hl => ?_)
      refine lv_goto (tgt := 9) hx hb dX5_leastDays_39 (by decide) ?_
      exact ih_9 _ (hd_9 ▸ mu_up 24 (rn_ltu (u' := 23) (Int32.not_le.mp c_7) hz9_5 (tA_rdc (lo := 0) (hi := 24) (tX_10 hT0) (rg_in (rg_c (v := 0) (lo := 0) (hi := 0) (by decide)) (by decide)) (show _ = 0 by decide) (by decide)) (by decide)) (by decide)) C_17 (z9_5 + 1) _ _ ls rfl (rg_w (rg_add (lo := 1) (hi := 24) (rn_ltu (u' := 23) (Int32.not_le.mp c_7) hz9_5 (tA_rdc (lo := 0) (hi := 24) (tX_10 hT0) (rg_in (rg_c (v := 0) (lo := 0) (hi := 0) (by decide)) (by decide)) (show _ = 0 by decide) (by decide)) (by decide)) (rg_c (v := 1) (lo := 1) (hi := 1) (by decide)) (by decide)) (by decide)) hT hF (fr_ste hLF_9 e_18 (by decide) (by decide)) hP hD hS (lv_sub hl [0, 1, 2, 3, 4, 5] rfl)
  exact L_9 _ C_2 0 _ _ ls rfl (rg_w (rg_c (v := 0) (lo := 0) (hi := 0) (by decide)) (by decide)) hT hF fr_rf hP hD hS (lv_sub hl [0, 1, 2, 3, 4, 5] rfl)

set_option maxHeartbeats 4000000 in
set_option maxRecDepth 100000 in
theorem c_X5_reached (l : Launch) (D : va_G) (E : Nat → ClassId) (G : Nat → Nat) (sz : Nat) (a : Nat → Nat) (C : Nat → va_E) (hT : TyX a E C) (x1 : Int32) (x2 : Int32) (x3 : Int32) (hx1 : rg x1 0 4) (hx3 : rg x3 0 15) : Met l yX5_reached (oh_w yX5_reached cX5_reached 6 (some .int)) ({ frames := 4, cells := 0, slots := 0, locals := 100 }) (oh_Pm D E G [.ref (a 3), .int x1, .int x2, .int x3] (oh_W 35 a C) sz) (va_Qi (fun r (u : Nat → va_E) => TyX a E u ∧ fr [(9, 10), (24, 28)] [] C u ∧ True) (oh_B D (va_A (oh_W 35 a C) sz) (fun u => oh_W 35 a u)) (va_A (oh_W 35 a C) sz)) 0 0 (va_A (oh_W 35 a C) sz) := by
  refine Met.ofW (cc := cX5_reached) (maxL := 6) (ret := (some .int)) (by decide) rfl ?_
  intro p e s m args below meth c s₁ B hml hv
  obtain ⟨rfl, hsz, hP, hK, hD0, hG⟩ := hv
  have hx := B.exec
  have hb := B.bytes
  have hr := B.returns
  have hts := atoms_spec (ws := (oh_w yX5_reached cX5_reached 6 (some .int))) B.pre
  have htg : ∀ w ∈ oh_t, w.before _ s = true := fun w h => hts w (List.mem_cons_of_mem _ h)
  have hown : s.vm.findClass RX5 = some m.cls := findClass_of_methodNamed B.named
  have hlocks := B.notSynchronized
  have hT0 := hT
  subst hsz
  have hD := hD0.self (sz := s.heap.size)
  generalize hAe : va_A (oh_W 35 a C) s.heap.size = A at hD hG ⊢
  have hA : ∀ q : Nat, s.heap.size ≤ q → A q := fun q h => by rw [← hAe]; exact Or.inr h
  have hS : va_S A s.heap s.heap [] := va_S.rf
  have hF : fr [(9, 10), (24, 28)] [] C C := fr_rf
  have hl := lv_entry ([.ref (a 3), .int x1, .int x2, .int x3]) (n := 6) (Nat.le_of_ble_eq_true rfl)
  rw [lg_entry_eq]
  generalize (lg_sl ([.ref (a 3), .int x1, .int x2, .int x3]) ++ List.replicate (6 - (lg_sl ([.ref (a 3), .int x1, .int x2, .int x3])).length) Slot.unset).toArray = ls at hl ⊢
  have hl : lv_has ls 6 [(0, .ref (a 3)), (1, .int x1), (2, .int x2), (3, .int x3)] := hl
  refine oh_genQ (fun Q hQ => ?_)
  refine lv_aload_n hx hb dX5_reached_0 rfl (lv_at hl 0 rfl) ?_
  refine lv_iload_n hx hb dX5_reached_1 rfl (lv_at hl 1 rfl) ?_
  refine lv_iload_n hx hb dX5_reached_2 rfl (lv_at hl 2 rfl) ?_
  refine tm_Vv (As := [.int x1, .int x2]) (rest := []) ⟨hx, hb, hml, hown, htg⟩ (c_X5_survey l D E G _ a C hT x1 x2 (rg_w hx1 (by decide))) (cwV 2 htg (oh_gV q_784 q_751 q_752 q_68 q_753) rfl rfl rfl pdVX5_survey ⟨Nat.le_of_ble_eq_true rfl, Nat.le_of_ble_eq_true rfl⟩) hK hP hD hG hS hA (va_recv hK hP (ci := 5) (q0 := 3) rfl (oh_wg (by decide) (sX_3 hT))) rfl hl.1 rfl (Nat.le_of_ble_eq_true rfl) dX5_reached_3 ⟨Nat.le_of_ble_eq_true rfl, Nat.le_of_ble_eq_true rfl⟩ (fun C_2 H locs hq_3 hP hD hS => ?_)
  obtain ⟨hT, f_4, hq_3⟩ := hq_3
  have hF := fr_tr hF f_4 (by decide) (by decide)
  refine W.widen (k := 0) (n := 0) (Nat.le_refl _) (Nat.le_refl _) ?_
  have t_5 := hT
  refine lv_aload_n hx hb dX5_reached_6 rfl (lv_at hl 0 rfl) ?_
  refine lv_iconst (v := 1) hx hb dX5_reached_7 (by decide) ?_
  refine tm_Vv (As := [.int 1]) (rest := []) ⟨hx, hb, hml, hown, htg⟩ (c_X5_priceByCoin l D E G _ a C_2 hT (1 : Int32)) (cwV 1 htg (oh_gV q_785 q_787 q_18 q_68 q_788) rfl rfl rfl pdVX5_priceByCoin ⟨Nat.le_of_ble_eq_true rfl, Nat.le_of_ble_eq_true rfl⟩) hK hP hD hG hS hA (va_recv hK hP (ci := 5) (q0 := 3) rfl (oh_wg (by decide) (sX_3 hT))) rfl hl.1 rfl (Nat.le_of_ble_eq_true rfl) dX5_reached_8 ⟨Nat.le_of_ble_eq_true rfl, Nat.le_of_ble_eq_true rfl⟩ (fun C_7 H locs hq_8 hP hD hS => ?_)
  obtain ⟨hT, f_9, hq_8⟩ := hq_8
  have hF := fr_tr hF f_9 (by decide) (by decide)
  refine W.widen (k := 0) (n := 0) (Nat.le_refl _) (Nat.le_refl _) ?_
  have t_10 := hT
  refine lv_aload_n hx hb dX5_reached_11 rfl (lv_at hl 0 rfl) ?_
  refine lv_iload_n hx hb dX5_reached_12 rfl (lv_at hl 3 rfl) ?_
  refine tm_Vv (As := [.int x3]) (rest := []) ⟨hx, hb, hml, hown, htg⟩ (c_X5_spread l D E G _ a C_7 hT x3 (rg_w hx3 (by decide))) (cwV 1 htg (oh_gV q_790 q_792 q_19 q_68 q_793) rfl rfl rfl pdVX5_spread ⟨Nat.le_of_ble_eq_true rfl, Nat.le_of_ble_eq_true rfl⟩) hK hP hD hG hS hA (va_recv hK hP (ci := 5) (q0 := 3) rfl (oh_wg (by decide) (sX_3 hT))) rfl hl.1 rfl (Nat.le_of_ble_eq_true rfl) dX5_reached_13 ⟨Nat.le_of_ble_eq_true rfl, Nat.le_of_ble_eq_true rfl⟩ (fun C_12 H locs hq_13 hP hD hS => ?_)
  obtain ⟨hT, f_14, hq_13⟩ := hq_13
  have hF := fr_tr hF f_14 (by decide) (by decide)
  refine W.widen (k := 0) (n := 0) (Nat.le_refl _) (Nat.le_refl _) ?_
  have t_15 := hT
  refine lv_iconst (v := 0) hx hb dX5_reached_16 (by decide) ?_
  refine lv_istore (lv' := [(4, .int 0), (0, .ref (a 3)), (1, .int x1), (2, .int x2), (3, .int x3)]) hx hb dX5_reached_17 hl (by decide) rfl (fun ls hl => ?_)
  refine lv_iconst (v := 0) hx hb dX5_reached_19 (by decide) ?_
  refine lv_istore (lv' := [(5, .int 0), (4, .int 0), (0, .ref (a 3)), (1, .int x1), (2, .int x2), (3, .int x3)]) hx hb dX5_reached_20 hl (by decide) rfl (fun ls hl => ?_)
  have L_22 : ∀ (d : Nat) (K22 : Nat → va_E) (z22_5 : Int32) (z22_4 : Int32) (H : Heap) (locs : List Loc) (ls : Array Slot), (16 - z22_5.toInt).toNat = d → rg z22_5 0 16 → TyX a E K22 → fr [(9, 10), (24, 28)] [] C K22 → fr [] [] C_12 K22 → va_P D vwCl (oh_W 35 a K22) H → va_D A (oh_W 35 a K22) → va_S A s.heap H locs → lv_has ls 6 [(5, .int z22_5), (4, .int z22_4), (0, .ref (a 3)), (1, .int x1), (2, .int x2), (3, .int x3)] → W p l e ({ frames := 4, cells := 0, slots := 0, locals := 100 }) s m (([.ref (a 3), .int x1, .int x2, .int x3] : List Value).toArray) below meth c H locs 0 0 Q (F0 m 22 ls []) := by
    intro d
    induction d using Nat.strongRecOn with
    | ind d ih_22 =>
    intro K22 z22_5 z22_4 H locs ls hd_22 hz22_5 hT hF hLF_22 hP hD hS hl
    have t_16 := hT
    refine lv_iload hx hb dX5_reached_22 (lv_at hl 0 rfl) ?_
    refine lv_bipush (v := 16) hx hb dX5_reached_24 (by decide) ?_
    refine lv_icmp_ge (tgt := 56) hx hb dX5_reached_26 (by decide) (fun (c_17 : (16 : Int32) ≤ z22_5) => ?_) (fun (c_17 : ¬ ((16 : Int32) ≤ z22_5)) => ?_)
    · refine lv_iload hx hb dX5_reached_56 (lv_at hl 1 rfl) ?_
      rw [hQ]
      exact W.iret (v := z22_4) hx hb hr (fun t ht hW => ⟨⟨z22_4, K22, rfl, ⟨hT, hF, trivial⟩, ⟨by rw [ht]; exact hP, hD⟩⟩, hS.F ht⟩) hS.2.2 dX5_reached_58
    · refine lv_aload_n hx hb dX5_reached_29 rfl (lv_at hl 2 rfl) ?_
      refine va_get (D := D) (ci := 5) (v := .ref (a 27)) (C := RX5) (T := TX5) (N := 7) hx hb htg ig_5 hown hK hP 3 (oh_wg (by decide) (sX_3 hT)) rfl 5 (by decide) (htg _ q_174) (fun _ h9 => h9) rfl dX5_reached_30 ?_
      refine lv_iload hx hb dX5_reached_33 (lv_at hl 0 rfl) ?_
      have n_18 : vp_in z22_5 16 := (rg_in (rn_ltu (u' := 15) (Int32.not_le.mp c_17) hz22_5 (rg_c (v := 16) (lo := 16) (hi := 16) (by decide)) (by decide)) (by decide))
      refine th_iald hx hb hK hP 27 (by decide) (Eq.trans (hLF_22.1 27 rfl (by decide)) (sX_27 t_15)) n_18 dX5_reached_35 ?_
      refine lv_ldc (v := 1000000000) hx hb hown (htg _ q_794) dX5_reached_36 ?_
      refine lv_icmp_eq (tgt := 50) hx hb dX5_reached_38 (by decide) (fun (c_19 : (ga (C_12 27) (z22_5).toNatClampNeg) = 1000000000) => ?_) (fun (c_19 : ¬ ((ga (C_12 27) (z22_5).toNatClampNeg) = 1000000000)) => ?_)
      · refine lv_iinc (v := z22_5 + 1) (lv' := [(5, .int (z22_5 + 1)), (4, .int z22_4), (0, .ref (a 3)), (1, .int x1), (2, .int x2), (3, .int x3)]) hx hb dX5_reached_50 hl (k := 0) rfl (by rfl) (by decide) rfl (fun ls hl => ?_)
        refine lv_goto (tgt := 22) hx hb dX5_reached_53 (by decide) ?_
        exact ih_22 _ (hd_22 ▸ mu_up 16 (rn_ltu (u' := 15) (Int32.not_le.mp c_17) hz22_5 (rg_c (v := 16) (lo := 16) (hi := 16) (by decide)) (by decide)) (by decide)) K22 (z22_5 + 1) z22_4 _ _ ls rfl (rg_w (rg_add (lo := 1) (hi := 16) (rn_ltu (u' := 15) (Int32.not_le.mp c_17) hz22_5 (rg_c (v := 16) (lo := 16) (hi := 16) (by decide)) (by decide)) (rg_c (v := 1) (lo := 1) (hi := 1) (by decide)) (by decide)) (by decide)) hT hF hLF_22 hP hD hS (lv_sub hl [0, 1, 2, 3, 4, 5] rfl)
      · refine lv_iload hx hb dX5_reached_41 (lv_at hl 1 rfl) ?_
        refine lv_iconst (v := 1) hx hb dX5_reached_43 (by decide) ?_
        refine lv_iload hx hb dX5_reached_44 (lv_at hl 0 rfl) ?_
        refine lv_ishl hx hb dX5_reached_46 ?_
        refine lv_ior hx hb dX5_reached_47 ?_
        refine lv_istore (lv' := [(4, .int (z22_4 ||| ((1 : Int32) <<< (z22_5 &&& 31)))), (5, .int z22_5), (0, .ref (a 3)), (1, .int x1), (2, .int x2), (3, .int x3)]) hx hb dX5_reached_48 hl (by decide) rfl (fun ls hl => ?_)
        refine lv_iinc (v := z22_5 + 1) (lv' := [(5, .int (z22_5 + 1)), (4, .int (z22_4 ||| ((1 : Int32) <<< (z22_5 &&& 31)))), (0, .ref (a 3)), (1, .int x1), (2, .int x2), (3, .int x3)]) hx hb dX5_reached_50 hl (k := 1) rfl (by rfl) (by decide) rfl (fun ls hl => ?_)
        refine lv_goto (tgt := 22) hx hb dX5_reached_53 (by decide) ?_
        exact ih_22 _ (hd_22 ▸ mu_up 16 (rn_ltu (u' := 15) (Int32.not_le.mp c_17) hz22_5 (rg_c (v := 16) (lo := 16) (hi := 16) (by decide)) (by decide)) (by decide)) K22 (z22_5 + 1) (z22_4 ||| ((1 : Int32) <<< (z22_5 &&& 31))) _ _ ls rfl (rg_w (rg_add (lo := 1) (hi := 16) (rn_ltu (u' := 15) (Int32.not_le.mp c_17) hz22_5 (rg_c (v := 16) (lo := 16) (hi := 16) (by decide)) (by decide)) (rg_c (v := 1) (lo := 1) (hi := 1) (by decide)) (by decide)) (by decide)) hT hF hLF_22 hP hD hS (lv_sub hl [0, 1, 2, 3, 4, 5] rfl)
  exact L_22 _ C_12 0 0 _ _ ls rfl (rg_w (rg_c (v := 0) (lo := 0) (hi := 0) (by decide)) (by decide)) hT hF fr_rf hP hD hS (lv_sub hl [0, 1, 2, 3, 4, 5] rfl)

set_option maxHeartbeats 4000000 in
set_option maxRecDepth 100000 in
theorem c_X5_hasWay (l : Launch) (D : va_G) (E : Nat → ClassId) (G : Nat → Nat) (sz : Nat) (a : Nat → Nat) (C : Nat → va_E) (hT : TyX a E C) (x1 : Int32) (x2 : Int32) (x3 : Int32) (x4 : Int32) (hx1 : rg x1 0 4) (hx3 : rg x3 0 15) (hx4 : rg x4 0 15) : Met l yX5_hasWay (oh_w yX5_hasWay cX5_hasWay 5 (some .boolean)) ({ frames := 4, cells := 0, slots := 0, locals := 100 }) (oh_Pm D E G [.ref (a 3), .int x1, .int x2, .int x3, .int x4] (oh_W 35 a C) sz) (va_Qi (fun r (u : Nat → va_E) => TyX a E u ∧ fr [(9, 10), (24, 28)] [] C u ∧ (r = 0 ∨ r = 1)) (oh_B D (va_A (oh_W 35 a C) sz) (fun u => oh_W 35 a u)) (va_A (oh_W 35 a C) sz)) 0 0 (va_A (oh_W 35 a C) sz) := by
  refine Met.ofW (cc := cX5_hasWay) (maxL := 5) (ret := (some .boolean)) (by decide) rfl ?_
  intro p e s m args below meth c s₁ B hml hv
  obtain ⟨rfl, hsz, hP, hK, hD0, hG⟩ := hv
  have hx := B.exec
  have hb := B.bytes
  have hr := B.returns
  have hts := atoms_spec (ws := (oh_w yX5_hasWay cX5_hasWay 5 (some .boolean))) B.pre
  have htg : ∀ w ∈ oh_t, w.before _ s = true := fun w h => hts w (List.mem_cons_of_mem _ h)
  have hown : s.vm.findClass RX5 = some m.cls := findClass_of_methodNamed B.named
  have hlocks := B.notSynchronized
  have hT0 := hT
  subst hsz
  have hD := hD0.self (sz := s.heap.size)
  generalize hAe : va_A (oh_W 35 a C) s.heap.size = A at hD hG ⊢
  have hA : ∀ q : Nat, s.heap.size ≤ q → A q := fun q h => by rw [← hAe]; exact Or.inr h
  have hS : va_S A s.heap s.heap [] := va_S.rf
  have hF : fr [(9, 10), (24, 28)] [] C C := fr_rf
  have hl := lv_entry ([.ref (a 3), .int x1, .int x2, .int x3, .int x4]) (n := 5) (Nat.le_of_ble_eq_true rfl)
  rw [lg_entry_eq]
  generalize (lg_sl ([.ref (a 3), .int x1, .int x2, .int x3, .int x4]) ++ List.replicate (5 - (lg_sl ([.ref (a 3), .int x1, .int x2, .int x3, .int x4])).length) Slot.unset).toArray = ls at hl ⊢
  have hl : lv_has ls 5 [(0, .ref (a 3)), (1, .int x1), (2, .int x2), (3, .int x3), (4, .int x4)] := hl
  refine oh_genQ (fun Q hQ => ?_)
  refine lv_aload_n hx hb dX5_hasWay_0 rfl (lv_at hl 0 rfl) ?_
  refine lv_iload_n hx hb dX5_hasWay_1 rfl (lv_at hl 1 rfl) ?_
  refine lv_iload_n hx hb dX5_hasWay_2 rfl (lv_at hl 2 rfl) ?_
  refine tm_Vv (As := [.int x1, .int x2]) (rest := []) ⟨hx, hb, hml, hown, htg⟩ (c_X5_survey l D E G _ a C hT x1 x2 (rg_w hx1 (by decide))) (cwV 2 htg (oh_gV q_784 q_751 q_752 q_68 q_753) rfl rfl rfl pdVX5_survey ⟨Nat.le_of_ble_eq_true rfl, Nat.le_of_ble_eq_true rfl⟩) hK hP hD hG hS hA (va_recv hK hP (ci := 5) (q0 := 3) rfl (oh_wg (by decide) (sX_3 hT))) rfl hl.1 rfl (Nat.le_of_ble_eq_true rfl) dX5_hasWay_3 ⟨Nat.le_of_ble_eq_true rfl, Nat.le_of_ble_eq_true rfl⟩ (fun C_2 H locs hq_3 hP hD hS => ?_)
  obtain ⟨hT, f_4, hq_3⟩ := hq_3
  have hF := fr_tr hF f_4 (by decide) (by decide)
  refine W.widen (k := 0) (n := 0) (Nat.le_refl _) (Nat.le_refl _) ?_
  have t_5 := hT
  refine lv_aload_n hx hb dX5_hasWay_6 rfl (lv_at hl 0 rfl) ?_
  refine lv_iconst (v := 1) hx hb dX5_hasWay_7 (by decide) ?_
  refine tm_Vv (As := [.int 1]) (rest := []) ⟨hx, hb, hml, hown, htg⟩ (c_X5_priceByCoin l D E G _ a C_2 hT (1 : Int32)) (cwV 1 htg (oh_gV q_785 q_787 q_18 q_68 q_788) rfl rfl rfl pdVX5_priceByCoin ⟨Nat.le_of_ble_eq_true rfl, Nat.le_of_ble_eq_true rfl⟩) hK hP hD hG hS hA (va_recv hK hP (ci := 5) (q0 := 3) rfl (oh_wg (by decide) (sX_3 hT))) rfl hl.1 rfl (Nat.le_of_ble_eq_true rfl) dX5_hasWay_8 ⟨Nat.le_of_ble_eq_true rfl, Nat.le_of_ble_eq_true rfl⟩ (fun C_7 H locs hq_8 hP hD hS => ?_)
  obtain ⟨hT, f_9, hq_8⟩ := hq_8
  have hF := fr_tr hF f_9 (by decide) (by decide)
  refine W.widen (k := 0) (n := 0) (Nat.le_refl _) (Nat.le_refl _) ?_
  have t_10 := hT
  refine lv_aload_n hx hb dX5_hasWay_11 rfl (lv_at hl 0 rfl) ?_
  refine lv_iload_n hx hb dX5_hasWay_12 rfl (lv_at hl 3 rfl) ?_
  refine tm_Vv (As := [.int x3]) (rest := []) ⟨hx, hb, hml, hown, htg⟩ (c_X5_spread l D E G _ a C_7 hT x3 (rg_w hx3 (by decide))) (cwV 1 htg (oh_gV q_790 q_792 q_19 q_68 q_793) rfl rfl rfl pdVX5_spread ⟨Nat.le_of_ble_eq_true rfl, Nat.le_of_ble_eq_true rfl⟩) hK hP hD hG hS hA (va_recv hK hP (ci := 5) (q0 := 3) rfl (oh_wg (by decide) (sX_3 hT))) rfl hl.1 rfl (Nat.le_of_ble_eq_true rfl) dX5_hasWay_13 ⟨Nat.le_of_ble_eq_true rfl, Nat.le_of_ble_eq_true rfl⟩ (fun C_12 H locs hq_13 hP hD hS => ?_)
  obtain ⟨hT, f_14, hq_13⟩ := hq_13
  have hF := fr_tr hF f_14 (by decide) (by decide)
  refine W.widen (k := 0) (n := 0) (Nat.le_refl _) (Nat.le_refl _) ?_
  have t_15 := hT
  refine lv_aload_n hx hb dX5_hasWay_16 rfl (lv_at hl 0 rfl) ?_
  refine va_get (D := D) (ci := 5) (v := .ref (a 27)) (C := RX5) (T := TX5) (N := 7) hx hb htg ig_5 hown hK hP 3 (oh_wg (by decide) (sX_3 hT)) rfl 5 (by decide) (htg _ q_174) (fun _ h9 => h9) rfl dX5_hasWay_17 ?_
  refine lv_iload hx hb dX5_hasWay_20 (lv_at hl 4 rfl) ?_
  have n_16 : vp_in x4 16 := (rg_in hx4 (by decide))
  refine th_iald hx hb hK hP 27 (by decide) (sX_27 hT) n_16 dX5_hasWay_22 ?_
  refine lv_ldc (v := 1000000000) hx hb hown (htg _ q_794) dX5_hasWay_23 ?_
  refine lv_icmp_eq (tgt := 32) hx hb dX5_hasWay_25 (by decide) (fun (c_17 : (ga (C_12 27) (x4).toNatClampNeg) = 1000000000) => ?_) (fun (c_17 : ¬ ((ga (C_12 27) (x4).toNatClampNeg) = 1000000000)) => ?_)
  · refine lv_iconst (v := 0) hx hb dX5_hasWay_32 (by decide) ?_
    rw [hQ]
    exact W.zret (v := 0) (ty := .boolean) hx hb hr (by decide) (fun t ht hW => ⟨⟨0, C_12, rfl, ⟨hT, hF, (Or.inl rfl)⟩, ⟨by rw [ht]; exact hP, hD⟩⟩, hS.F ht⟩) hS.2.2 dX5_hasWay_33
  · refine lv_iconst (v := 1) hx hb dX5_hasWay_28 (by decide) ?_
    refine lv_goto (tgt := 33) hx hb dX5_hasWay_29 (by decide) ?_
    rw [hQ]
    exact W.zret (v := 1) (ty := .boolean) hx hb hr (by decide) (fun t ht hW => ⟨⟨1, C_12, rfl, ⟨hT, hF, (Or.inr rfl)⟩, ⟨by rw [ht]; exact hP, hD⟩⟩, hS.F ht⟩) hS.2.2 dX5_hasWay_33

set_option maxHeartbeats 4000000 in
set_option maxRecDepth 100000 in
theorem c_X5_otherEnd (l : Launch) (D : va_G) (E : Nat → ClassId) (G : Nat → Nat) (a : Nat → Nat) (C : Nat → va_E) (hT : TyX a E C) (x1 : Int32) (x2 : Int32) (hx1 : rg x1 0 23) : Met l yX5_otherEnd (oh_w yX5_otherEnd cX5_otherEnd 3 (some .int)) ({ frames := 1, cells := 0, slots := 0, locals := 22 }) (oh_Pp D E G [.ref (a 3), .int x1, .int x2] (oh_W 35 a C)) (vp_Si (fun r => rg r (-1) 15)) 0 0 (fun _ => False) := by
  refine Met.ofW (cc := cX5_otherEnd) (maxL := 3) (ret := (some .int)) (by decide) rfl ?_
  intro p e s m args below meth c s₁ B hml hv
  obtain ⟨rfl, hP, hK, hG⟩ := hv
  have hx := B.exec
  have hb := B.bytes
  have hr := B.returns
  have hts := atoms_spec (ws := (oh_w yX5_otherEnd cX5_otherEnd 3 (some .int))) B.pre
  have htg : ∀ w ∈ oh_t, w.before _ s = true := fun w h => hts w (List.mem_cons_of_mem _ h)
  have hown : s.vm.findClass RX5 = some m.cls := findClass_of_methodNamed B.named
  have hlocks := B.notSynchronized
  have hT0 := hT
  have hS : va_S (fun _ => False) s.heap s.heap [] := va_S.rf
  have hl := lv_entry ([.ref (a 3), .int x1, .int x2]) (n := 3) (Nat.le_of_ble_eq_true rfl)
  rw [lg_entry_eq]
  generalize (lg_sl ([.ref (a 3), .int x1, .int x2]) ++ List.replicate (3 - (lg_sl ([.ref (a 3), .int x1, .int x2])).length) Slot.unset).toArray = ls at hl ⊢
  have hl : lv_has ls 3 [(0, .ref (a 3)), (1, .int x1), (2, .int x2)] := hl
  refine oh_genQ (fun Q hQ => ?_)
  refine lv_aload_n hx hb dX5_otherEnd_0 rfl (lv_at hl 0 rfl) ?_
  refine va_get (D := D) (ci := 5) (v := .ref (a 1)) (C := RX5) (T := TX5) (N := 7) hx hb htg ig_5 hown hK hP 3 (oh_wg (by decide) (sX_3 hT)) rfl 0 (by decide) (htg _ q_167) (fun _ h9 => h9) rfl dX5_otherEnd_1 ?_
  refine lv_iload_n hx hb dX5_otherEnd_4 rfl (lv_at hl 1 rfl) ?_
  refine lv_iconst (v := 0) hx hb dX5_otherEnd_5 (by decide) ?_
  refine tq_V (As := [.int x1, .int 0]) (rest := []) (ws := (oh_W 35 a C)) ⟨hx, hb, hml, hown, htg⟩ (c_X0_ofRoad l D E G a C hT x1 (0 : Int32) (rg_w hx1 (by decide)) (rg_w (rg_c (v := 0) (lo := 0) (hi := 0) (by decide)) (by decide))) (cwV 2 htg (oh_gV q_755 q_480 q_481 q_67 q_482) rfl rfl rfl pdVX0_ofRoad ⟨Nat.le_of_ble_eq_true rfl, Nat.le_of_ble_eq_true rfl⟩) hK hP hG hS (va_recv hK hP (ci := 0) (q0 := 1) rfl (oh_wg (by decide) (sX_1 hT))) rfl hl.1 rfl (Nat.le_of_ble_eq_true rfl) dX5_otherEnd_6 ⟨Nat.le_of_ble_eq_true rfl, Nat.le_of_ble_eq_true rfl⟩ (fun r_1 hq_2 => ?_)
  subst hq_2
  refine lv_iload_n hx hb dX5_otherEnd_9 rfl (lv_at hl 2 rfl) ?_
  refine lv_icmp_ne (tgt := 23) hx hb dX5_otherEnd_10 (by decide) (fun (c_3 : ¬ ((ga (C 11) ((x1 * 7) + 0).toNatClampNeg) = x2)) => ?_) (fun (c_3 : (ga (C 11) ((x1 * 7) + 0).toNatClampNeg) = x2) => ?_)
  · refine lv_aload_n hx hb dX5_otherEnd_23 rfl (lv_at hl 0 rfl) ?_
    refine va_get (D := D) (ci := 5) (v := .ref (a 1)) (C := RX5) (T := TX5) (N := 7) hx hb htg ig_5 hown hK hP 3 (oh_wg (by decide) (sX_3 hT)) rfl 0 (by decide) (htg _ q_167) (fun _ h9 => h9) rfl dX5_otherEnd_24 ?_
    refine lv_iload_n hx hb dX5_otherEnd_27 rfl (lv_at hl 1 rfl) ?_
    refine lv_iconst (v := 1) hx hb dX5_otherEnd_28 (by decide) ?_
    refine tq_V (As := [.int x1, .int 1]) (rest := []) (ws := (oh_W 35 a C)) ⟨hx, hb, hml, hown, htg⟩ (c_X0_ofRoad l D E G a C hT x1 (1 : Int32) (rg_w hx1 (by decide)) (rg_w (rg_c (v := 1) (lo := 1) (hi := 1) (by decide)) (by decide))) (cwV 2 htg (oh_gV q_755 q_480 q_481 q_67 q_482) rfl rfl rfl pdVX0_ofRoad ⟨Nat.le_of_ble_eq_true rfl, Nat.le_of_ble_eq_true rfl⟩) hK hP hG hS (va_recv hK hP (ci := 0) (q0 := 1) rfl (oh_wg (by decide) (sX_1 hT))) rfl hl.1 rfl (Nat.le_of_ble_eq_true rfl) dX5_otherEnd_29 ⟨Nat.le_of_ble_eq_true rfl, Nat.le_of_ble_eq_true rfl⟩ (fun r_4 hq_5 => ?_)
    subst hq_5
    refine lv_iload_n hx hb dX5_otherEnd_32 rfl (lv_at hl 2 rfl) ?_
    refine lv_icmp_ne (tgt := 48) hx hb dX5_otherEnd_33 (by decide) (fun (c_6 : ¬ ((ga (C 11) ((x1 * 7) + 1).toNatClampNeg) = x2)) => ?_) (fun (c_6 : (ga (C 11) ((x1 * 7) + 1).toNatClampNeg) = x2) => ?_)
    · refine lv_iconst (v := (-1)) hx hb dX5_otherEnd_48 (by decide) ?_
      rw [hQ]
      exact W.iret (v := (-1)) hx hb hr (fun t ht hW => ⟨(-1), rfl, (rg_w (rg_c (v := (-1)) (lo := (-1)) (hi := (-1)) (by decide)) (by decide)), ht⟩) (fun q h => by cases h) dX5_otherEnd_49
    · refine lv_aload_n hx hb dX5_otherEnd_36 rfl (lv_at hl 0 rfl) ?_
      refine va_get (D := D) (ci := 5) (v := .ref (a 1)) (C := RX5) (T := TX5) (N := 7) hx hb htg ig_5 hown hK hP 3 (oh_wg (by decide) (sX_3 hT)) rfl 0 (by decide) (htg _ q_167) (fun _ h9 => h9) rfl dX5_otherEnd_37 ?_
      refine lv_iload_n hx hb dX5_otherEnd_40 rfl (lv_at hl 1 rfl) ?_
      refine lv_iconst (v := 0) hx hb dX5_otherEnd_41 (by decide) ?_
      refine tq_V (As := [.int x1, .int 0]) (rest := []) (ws := (oh_W 35 a C)) ⟨hx, hb, hml, hown, htg⟩ (c_X0_ofRoad l D E G a C hT x1 (0 : Int32) (rg_w hx1 (by decide)) (rg_w (rg_c (v := 0) (lo := 0) (hi := 0) (by decide)) (by decide))) (cwV 2 htg (oh_gV q_755 q_480 q_481 q_67 q_482) rfl rfl rfl pdVX0_ofRoad ⟨Nat.le_of_ble_eq_true rfl, Nat.le_of_ble_eq_true rfl⟩) hK hP hG hS (va_recv hK hP (ci := 0) (q0 := 1) rfl (oh_wg (by decide) (sX_1 hT))) rfl hl.1 rfl (Nat.le_of_ble_eq_true rfl) dX5_otherEnd_42 ⟨Nat.le_of_ble_eq_true rfl, Nat.le_of_ble_eq_true rfl⟩ (fun r_7 hq_8 => ?_)
      subst hq_8
      refine lv_goto (tgt := 49) hx hb dX5_otherEnd_45 (by decide) ?_
      rw [hQ]
      exact W.iret (v := ga (C 11) ((x1 * 7) + 0).toNatClampNeg) hx hb hr (fun t ht hW => ⟨ga (C 11) ((x1 * 7) + 0).toNatClampNeg, rfl, (rg_w (tA_rdc (lo := 0) (hi := 15) (tX_11 hT0) (rg_in (rg_add (lo := 0) (hi := 161) (rg_mul (lo := 0) (hi := 161) hx1 (rg_c (v := 7) (lo := 7) (hi := 7) (by decide)) (by decide)) (rg_c (v := 0) (lo := 0) (hi := 0) (by decide)) (by decide)) (by decide)) (oh_col (W := 7) hx1 rfl (rg_c (v := 0) (lo := 0) (hi := 0) (by decide)) (by decide)) (by decide)) (by decide)), ht⟩) (fun q h => by cases h) dX5_otherEnd_49
  · refine lv_aload_n hx hb dX5_otherEnd_13 rfl (lv_at hl 0 rfl) ?_
    refine va_get (D := D) (ci := 5) (v := .ref (a 1)) (C := RX5) (T := TX5) (N := 7) hx hb htg ig_5 hown hK hP 3 (oh_wg (by decide) (sX_3 hT)) rfl 0 (by decide) (htg _ q_167) (fun _ h9 => h9) rfl dX5_otherEnd_14 ?_
    refine lv_iload_n hx hb dX5_otherEnd_17 rfl (lv_at hl 1 rfl) ?_
    refine lv_iconst (v := 1) hx hb dX5_otherEnd_18 (by decide) ?_
    refine tq_V (As := [.int x1, .int 1]) (rest := []) (ws := (oh_W 35 a C)) ⟨hx, hb, hml, hown, htg⟩ (c_X0_ofRoad l D E G a C hT x1 (1 : Int32) (rg_w hx1 (by decide)) (rg_w (rg_c (v := 1) (lo := 1) (hi := 1) (by decide)) (by decide))) (cwV 2 htg (oh_gV q_755 q_480 q_481 q_67 q_482) rfl rfl rfl pdVX0_ofRoad ⟨Nat.le_of_ble_eq_true rfl, Nat.le_of_ble_eq_true rfl⟩) hK hP hG hS (va_recv hK hP (ci := 0) (q0 := 1) rfl (oh_wg (by decide) (sX_1 hT))) rfl hl.1 rfl (Nat.le_of_ble_eq_true rfl) dX5_otherEnd_19 ⟨Nat.le_of_ble_eq_true rfl, Nat.le_of_ble_eq_true rfl⟩ (fun r_9 hq_10 => ?_)
    subst hq_10
    rw [hQ]
    exact W.iret (v := ga (C 11) ((x1 * 7) + 1).toNatClampNeg) hx hb hr (fun t ht hW => ⟨ga (C 11) ((x1 * 7) + 1).toNatClampNeg, rfl, (rg_w (tA_rdc (lo := 0) (hi := 15) (tX_11 hT0) (rg_in (rg_add (lo := 1) (hi := 162) (rg_mul (lo := 0) (hi := 161) hx1 (rg_c (v := 7) (lo := 7) (hi := 7) (by decide)) (by decide)) (rg_c (v := 1) (lo := 1) (hi := 1) (by decide)) (by decide)) (by decide)) (oh_col (W := 7) hx1 rfl (rg_c (v := 1) (lo := 1) (hi := 1) (by decide)) (by decide)) (by decide)) (by decide)), ht⟩) (fun q h => by cases h) dX5_otherEnd_22

set_option maxHeartbeats 4000000 in
set_option maxRecDepth 100000 in
theorem c_X5_firstRoad (l : Launch) (D : va_G) (E : Nat → ClassId) (G : Nat → Nat) (sz : Nat) (a : Nat → Nat) (C : Nat → va_E) (hT : TyX a E C) (x1 : Int32) (x2 : Int32) (x3 : Int32) (x4 : Int32) (hx1 : rg x1 0 4) (hx3 : rg x3 0 15) (hx4 : rg x4 0 15) : Met l yX5_firstRoad (oh_w yX5_firstRoad cX5_firstRoad 7 (some .int)) ({ frames := 4, cells := 0, slots := 0, locals := 100 }) (oh_Pm D E G [.ref (a 3), .int x1, .int x2, .int x3, .int x4] (oh_W 35 a C) sz) (va_Qi (fun r (u : Nat → va_E) => TyX a E u ∧ fr [(9, 10), (24, 28)] [] C u ∧ rg r (-1) 23) (oh_B D (va_A (oh_W 35 a C) sz) (fun u => oh_W 35 a u)) (va_A (oh_W 35 a C) sz)) 0 0 (va_A (oh_W 35 a C) sz) := by
  refine Met.ofW (cc := cX5_firstRoad) (maxL := 7) (ret := (some .int)) (by decide) rfl ?_
  intro p e s m args below meth c s₁ B hml hv
  obtain ⟨rfl, hsz, hP, hK, hD0, hG⟩ := hv
  have hx := B.exec
  have hb := B.bytes
  have hr := B.returns
  have hts := atoms_spec (ws := (oh_w yX5_firstRoad cX5_firstRoad 7 (some .int))) B.pre
  have htg : ∀ w ∈ oh_t, w.before _ s = true := fun w h => hts w (List.mem_cons_of_mem _ h)
  have hown : s.vm.findClass RX5 = some m.cls := findClass_of_methodNamed B.named
  have hlocks := B.notSynchronized
  have hT0 := hT
  subst hsz
  have hD := hD0.self (sz := s.heap.size)
  generalize hAe : va_A (oh_W 35 a C) s.heap.size = A at hD hG ⊢
  have hA : ∀ q : Nat, s.heap.size ≤ q → A q := fun q h => by rw [← hAe]; exact Or.inr h
  have hS : va_S A s.heap s.heap [] := va_S.rf
  have hF : fr [(9, 10), (24, 28)] [] C C := fr_rf
  have hl := lv_entry ([.ref (a 3), .int x1, .int x2, .int x3, .int x4]) (n := 7) (Nat.le_of_ble_eq_true rfl)
  rw [lg_entry_eq]
  generalize (lg_sl ([.ref (a 3), .int x1, .int x2, .int x3, .int x4]) ++ List.replicate (7 - (lg_sl ([.ref (a 3), .int x1, .int x2, .int x3, .int x4])).length) Slot.unset).toArray = ls at hl ⊢
  have hl : lv_has ls 7 [(0, .ref (a 3)), (1, .int x1), (2, .int x2), (3, .int x3), (4, .int x4)] := hl
  refine oh_genQ (fun Q hQ => ?_)
  refine lv_aload_n hx hb dX5_firstRoad_0 rfl (lv_at hl 0 rfl) ?_
  refine lv_iload_n hx hb dX5_firstRoad_1 rfl (lv_at hl 1 rfl) ?_
  refine lv_iload_n hx hb dX5_firstRoad_2 rfl (lv_at hl 2 rfl) ?_
  refine tm_Vv (As := [.int x1, .int x2]) (rest := []) ⟨hx, hb, hml, hown, htg⟩ (c_X5_survey l D E G _ a C hT x1 x2 (rg_w hx1 (by decide))) (cwV 2 htg (oh_gV q_784 q_751 q_752 q_68 q_753) rfl rfl rfl pdVX5_survey ⟨Nat.le_of_ble_eq_true rfl, Nat.le_of_ble_eq_true rfl⟩) hK hP hD hG hS hA (va_recv hK hP (ci := 5) (q0 := 3) rfl (oh_wg (by decide) (sX_3 hT))) rfl hl.1 rfl (Nat.le_of_ble_eq_true rfl) dX5_firstRoad_3 ⟨Nat.le_of_ble_eq_true rfl, Nat.le_of_ble_eq_true rfl⟩ (fun C_2 H locs hq_3 hP hD hS => ?_)
  obtain ⟨hT, f_4, hq_3⟩ := hq_3
  have hF := fr_tr hF f_4 (by decide) (by decide)
  refine W.widen (k := 0) (n := 0) (Nat.le_refl _) (Nat.le_refl _) ?_
  have t_5 := hT
  refine lv_aload_n hx hb dX5_firstRoad_6 rfl (lv_at hl 0 rfl) ?_
  refine lv_iconst (v := 1) hx hb dX5_firstRoad_7 (by decide) ?_
  refine tm_Vv (As := [.int 1]) (rest := []) ⟨hx, hb, hml, hown, htg⟩ (c_X5_priceByCoin l D E G _ a C_2 hT (1 : Int32)) (cwV 1 htg (oh_gV q_785 q_787 q_18 q_68 q_788) rfl rfl rfl pdVX5_priceByCoin ⟨Nat.le_of_ble_eq_true rfl, Nat.le_of_ble_eq_true rfl⟩) hK hP hD hG hS hA (va_recv hK hP (ci := 5) (q0 := 3) rfl (oh_wg (by decide) (sX_3 hT))) rfl hl.1 rfl (Nat.le_of_ble_eq_true rfl) dX5_firstRoad_8 ⟨Nat.le_of_ble_eq_true rfl, Nat.le_of_ble_eq_true rfl⟩ (fun C_7 H locs hq_8 hP hD hS => ?_)
  obtain ⟨hT, f_9, hq_8⟩ := hq_8
  have hF := fr_tr hF f_9 (by decide) (by decide)
  refine W.widen (k := 0) (n := 0) (Nat.le_refl _) (Nat.le_refl _) ?_
  have t_10 := hT
  refine lv_aload_n hx hb dX5_firstRoad_11 rfl (lv_at hl 0 rfl) ?_
  refine lv_iload hx hb dX5_firstRoad_12 (lv_at hl 4 rfl) ?_
  refine tm_Vv (As := [.int x4]) (rest := []) ⟨hx, hb, hml, hown, htg⟩ (c_X5_spread l D E G _ a C_7 hT x4 (rg_w hx4 (by decide))) (cwV 1 htg (oh_gV q_790 q_792 q_19 q_68 q_793) rfl rfl rfl pdVX5_spread ⟨Nat.le_of_ble_eq_true rfl, Nat.le_of_ble_eq_true rfl⟩) hK hP hD hG hS hA (va_recv hK hP (ci := 5) (q0 := 3) rfl (oh_wg (by decide) (sX_3 hT))) rfl hl.1 rfl (Nat.le_of_ble_eq_true rfl) dX5_firstRoad_14 ⟨Nat.le_of_ble_eq_true rfl, Nat.le_of_ble_eq_true rfl⟩ (fun C_12 H locs hq_13 hP hD hS => ?_)
  obtain ⟨hT, f_14, hq_13⟩ := hq_13
  have hF := fr_tr hF f_14 (by decide) (by decide)
  refine W.widen (k := 0) (n := 0) (Nat.le_refl _) (Nat.le_refl _) ?_
  have t_15 := hT
  refine lv_iconst (v := 0) hx hb dX5_firstRoad_17 (by decide) ?_
  refine lv_istore (lv' := [(5, .int 0), (0, .ref (a 3)), (1, .int x1), (2, .int x2), (3, .int x3), (4, .int x4)]) hx hb dX5_firstRoad_18 hl (by decide) rfl (fun ls hl => ?_)
  have L_20 : ∀ (d : Nat) (K20 : Nat → va_E) (z20_5 : Int32) (H : Heap) (locs : List Loc) (ls : Array Slot), (24 - z20_5.toInt).toNat = d → rg z20_5 0 24 → TyX a E K20 → fr [(9, 10), (24, 28)] [] C K20 → fr [] [] C_12 K20 → va_P D vwCl (oh_W 35 a K20) H → va_D A (oh_W 35 a K20) → va_S A s.heap H locs → lv_has ls 7 [(5, .int z20_5), (0, .ref (a 3)), (1, .int x1), (2, .int x2), (3, .int x3), (4, .int x4)] → W p l e ({ frames := 4, cells := 0, slots := 0, locals := 100 }) s m (([.ref (a 3), .int x1, .int x2, .int x3, .int x4] : List Value).toArray) below meth c H locs 0 0 Q (F0 m 20 ls []) := by
    intro d
    induction d using Nat.strongRecOn with
    | ind d ih_20 =>
    intro K20 z20_5 H locs ls hd_20 hz20_5 hT hF hLF_20 hP hD hS hl
    have t_16 := hT
    refine lv_iload hx hb dX5_firstRoad_20 (lv_at hl 0 rfl) ?_
    refine lv_aload_n hx hb dX5_firstRoad_22 rfl (lv_at hl 1 rfl) ?_
    refine va_get (D := D) (ci := 5) (v := .ref (a 1)) (C := RX5) (T := TX5) (N := 7) hx hb htg ig_5 hown hK hP 3 (oh_wg (by decide) (sX_3 hT)) rfl 0 (by decide) (htg _ q_167) (fun _ h9 => h9) rfl dX5_firstRoad_23 ?_
    refine va_get (D := D) (ci := 0) (v := .ref (a 10)) (C := RX0) (T := TX0) (N := 8) hx hb htg ig_0 hown hK hP 1 (oh_wg (by decide) (sX_1 hT)) rfl 0 (by decide) (htg _ q_99) (fun _ h9 => h9) rfl dX5_firstRoad_26 ?_
    refine lv_iconst (v := 0) hx hb dX5_firstRoad_29 (by decide) ?_
    refine th_iald hx hb hK hP 10 (by decide) (Eq.trans (Eq.trans (hLF_20.1 10 rfl (by decide)) (Eq.trans (f_14.1 10 rfl (by decide)) (Eq.trans (f_9.1 10 rfl (by decide)) (f_4.1 10 rfl (by decide))))) (sX_10 hT0)) (rg_in (rg_c (v := 0) (lo := 0) (hi := 0) (by decide)) (by decide)) dX5_firstRoad_30 ?_
    refine lv_icmp_ge (tgt := 105) hx hb dX5_firstRoad_31 (by decide) (fun (c_17 : (ga (C 10) ((0 : Int32)).toNatClampNeg) ≤ z20_5) => ?_) (fun (c_17 : ¬ ((ga (C 10) ((0 : Int32)).toNatClampNeg) ≤ z20_5)) => ?_)
    · refine lv_iconst (v := (-1)) hx hb dX5_firstRoad_105 (by decide) ?_
      rw [hQ]
      exact W.iret (v := (-1)) hx hb hr (fun t ht hW => ⟨⟨(-1), K20, rfl, ⟨hT, hF, (rg_w (rg_c (v := (-1)) (lo := (-1)) (hi := (-1)) (by decide)) (by decide))⟩, ⟨by rw [ht]; exact hP, hD⟩⟩, hS.F ht⟩) hS.2.2 dX5_firstRoad_106
    · refine lv_aload_n hx hb dX5_firstRoad_34 rfl (lv_at hl 1 rfl) ?_
      refine lv_iload hx hb dX5_firstRoad_35 (lv_at hl 0 rfl) ?_
      refine lv_iload_n hx hb dX5_firstRoad_37 rfl (lv_at hl 4 rfl) ?_
      refine tq_V (As := [.int z20_5, .int x3]) (rest := []) (ws := (oh_W 35 a K20)) ⟨hx, hb, hml, hown, htg⟩ (c_X5_otherEnd l D E G a K20 hT z20_5 x3 (rg_w (rn_ltu (u' := 23) (Int32.not_le.mp c_17) hz20_5 (tA_rdc (lo := 0) (hi := 24) (tX_10 hT0) (rg_in (rg_c (v := 0) (lo := 0) (hi := 0) (by decide)) (by decide)) (show _ = 0 by decide) (by decide)) (by decide)) (by decide))) (cwV 2 htg (oh_gV q_846 q_848 q_25 q_68 q_849) rfl rfl rfl pdVX5_otherEnd ⟨Nat.le_of_ble_eq_true rfl, Nat.le_of_ble_eq_true rfl⟩) hK hP hG hS (va_recv hK hP (ci := 5) (q0 := 3) rfl (oh_wg (by decide) (sX_3 hT))) rfl hl.1 rfl (Nat.le_of_ble_eq_true rfl) dX5_firstRoad_38 ⟨Nat.le_of_ble_eq_true rfl, Nat.le_of_ble_eq_true rfl⟩ (fun r_18 hq_19 => ?_)
      refine lv_istore (lv' := [(6, .int r_18), (5, .int z20_5), (0, .ref (a 3)), (1, .int x1), (2, .int x2), (3, .int x3), (4, .int x4)]) hx hb dX5_firstRoad_41 hl (by decide) rfl (fun ls hl => ?_)
      refine lv_aload_n hx hb dX5_firstRoad_43 rfl (lv_at hl 2 rfl) ?_
      refine va_get (D := D) (ci := 5) (v := .ref (a 24)) (C := RX5) (T := TX5) (N := 7) hx hb htg ig_5 hown hK hP 3 (oh_wg (by decide) (sX_3 hT)) rfl 2 (by decide) (htg _ q_170) (fun _ h9 => h9) rfl dX5_firstRoad_44 ?_
      refine lv_iload hx hb dX5_firstRoad_47 (lv_at hl 1 rfl) ?_
      have n_20 : vp_in z20_5 24 := (rg_in (rn_ltu (u' := 23) (Int32.not_le.mp c_17) hz20_5 (tA_rdc (lo := 0) (hi := 24) (tX_10 hT0) (rg_in (rg_c (v := 0) (lo := 0) (hi := 0) (by decide)) (by decide)) (show _ = 0 by decide) (by decide)) (by decide)) (by decide))
      refine th_iald hx hb hK hP 24 (by decide) (Eq.trans (Eq.trans (hLF_20.1 24 rfl (by decide)) (Eq.trans (f_14.1 24 rfl (by decide)) (f_9.1 24 rfl (by decide)))) (sX_24 t_5)) n_20 dX5_firstRoad_49 ?_
      refine lv_iconst (v := (-1)) hx hb dX5_firstRoad_50 (by decide) ?_
      refine lv_icmp_eq (tgt := 99) hx hb dX5_firstRoad_51 (by decide) (fun (c_21 : (ga (C_2 24) (z20_5).toNatClampNeg) = (-1)) => ?_) (fun (c_21 : ¬ ((ga (C_2 24) (z20_5).toNatClampNeg) = (-1))) => ?_)
      · refine lv_iinc (v := z20_5 + 1) (lv' := [(5, .int (z20_5 + 1)), (6, .int r_18), (0, .ref (a 3)), (1, .int x1), (2, .int x2), (3, .int x3), (4, .int x4)]) hx hb dX5_firstRoad_99 hl (k := 1) rfl (by rfl) (by decide) rfl (fun ls hl => ?_)
        refine lv_goto (tgt := 20) hx hb dX5_firstRoad_102 (by decide) ?_
        exact ih_20 _ (hd_20 ▸ mu_up 24 (rn_ltu (u' := 23) (Int32.not_le.mp c_17) hz20_5 (tA_rdc (lo := 0) (hi := 24) (tX_10 hT0) (rg_in (rg_c (v := 0) (lo := 0) (hi := 0) (by decide)) (by decide)) (show _ = 0 by decide) (by decide)) (by decide)) (by decide)) K20 (z20_5 + 1) _ _ ls rfl (rg_w (rg_add (lo := 1) (hi := 24) (rn_ltu (u' := 23) (Int32.not_le.mp c_17) hz20_5 (tA_rdc (lo := 0) (hi := 24) (tX_10 hT0) (rg_in (rg_c (v := 0) (lo := 0) (hi := 0) (by decide)) (by decide)) (show _ = 0 by decide) (by decide)) (by decide)) (rg_c (v := 1) (lo := 1) (hi := 1) (by decide)) (by decide)) (by decide)) hT hF hLF_20 hP hD hS (lv_sub hl [0, 2, 3, 4, 5, 6] rfl)
      · refine lv_iload hx hb dX5_firstRoad_54 (lv_at hl 0 rfl) ?_
        refine lv_iconst (v := (-1)) hx hb dX5_firstRoad_56 (by decide) ?_
        refine lv_icmp_eq (tgt := 99) hx hb dX5_firstRoad_57 (by decide) (fun (c_22 : r_18 = (-1)) => ?_) (fun (c_22 : ¬ (r_18 = (-1))) => ?_)
        · refine lv_iinc (v := z20_5 + 1) (lv' := [(5, .int (z20_5 + 1)), (6, .int r_18), (0, .ref (a 3)), (1, .int x1), (2, .int x2), (3, .int x3), (4, .int x4)]) hx hb dX5_firstRoad_99 hl (k := 1) rfl (by rfl) (by decide) rfl (fun ls hl => ?_)
          refine lv_goto (tgt := 20) hx hb dX5_firstRoad_102 (by decide) ?_
          exact ih_20 _ (hd_20 ▸ mu_up 24 (rn_ltu (u' := 23) (Int32.not_le.mp c_17) hz20_5 (tA_rdc (lo := 0) (hi := 24) (tX_10 hT0) (rg_in (rg_c (v := 0) (lo := 0) (hi := 0) (by decide)) (by decide)) (show _ = 0 by decide) (by decide)) (by decide)) (by decide)) K20 (z20_5 + 1) _ _ ls rfl (rg_w (rg_add (lo := 1) (hi := 24) (rn_ltu (u' := 23) (Int32.not_le.mp c_17) hz20_5 (tA_rdc (lo := 0) (hi := 24) (tX_10 hT0) (rg_in (rg_c (v := 0) (lo := 0) (hi := 0) (by decide)) (by decide)) (show _ = 0 by decide) (by decide)) (by decide)) (rg_c (v := 1) (lo := 1) (hi := 1) (by decide)) (by decide)) (by decide)) hT hF hLF_20 hP hD hS (lv_sub hl [0, 2, 3, 4, 5, 6] rfl)
        · refine lv_aload_n hx hb dX5_firstRoad_60 rfl (lv_at hl 2 rfl) ?_
          refine va_get (D := D) (ci := 5) (v := .ref (a 27)) (C := RX5) (T := TX5) (N := 7) hx hb htg ig_5 hown hK hP 3 (oh_wg (by decide) (sX_3 hT)) rfl 5 (by decide) (htg _ q_174) (fun _ h9 => h9) rfl dX5_firstRoad_61 ?_
          refine lv_iload hx hb dX5_firstRoad_64 (lv_at hl 0 rfl) ?_
          have n_23 : vp_in r_18 16 := (rg_in (rn_nel (l' := 0) c_22 hq_19 (rg_c (v := (-1)) (lo := (-1)) (hi := (-1)) (by decide)) (by decide)) (by decide))
          refine th_iald hx hb hK hP 27 (by decide) (Eq.trans (hLF_20.1 27 rfl (by decide)) (sX_27 t_15)) n_23 dX5_firstRoad_66 ?_
          refine lv_ldc (v := 1000000000) hx hb hown (htg _ q_794) dX5_firstRoad_67 ?_
          refine lv_icmp_eq (tgt := 99) hx hb dX5_firstRoad_69 (by decide) (fun (c_24 : (ga (C_12 27) (r_18).toNatClampNeg) = 1000000000) => ?_) (fun (c_24 : ¬ ((ga (C_12 27) (r_18).toNatClampNeg) = 1000000000)) => ?_)
          · refine lv_iinc (v := z20_5 + 1) (lv' := [(5, .int (z20_5 + 1)), (6, .int r_18), (0, .ref (a 3)), (1, .int x1), (2, .int x2), (3, .int x3), (4, .int x4)]) hx hb dX5_firstRoad_99 hl (k := 1) rfl (by rfl) (by decide) rfl (fun ls hl => ?_)
            refine lv_goto (tgt := 20) hx hb dX5_firstRoad_102 (by decide) ?_
            exact ih_20 _ (hd_20 ▸ mu_up 24 (rn_ltu (u' := 23) (Int32.not_le.mp c_17) hz20_5 (tA_rdc (lo := 0) (hi := 24) (tX_10 hT0) (rg_in (rg_c (v := 0) (lo := 0) (hi := 0) (by decide)) (by decide)) (show _ = 0 by decide) (by decide)) (by decide)) (by decide)) K20 (z20_5 + 1) _ _ ls rfl (rg_w (rg_add (lo := 1) (hi := 24) (rn_ltu (u' := 23) (Int32.not_le.mp c_17) hz20_5 (tA_rdc (lo := 0) (hi := 24) (tX_10 hT0) (rg_in (rg_c (v := 0) (lo := 0) (hi := 0) (by decide)) (by decide)) (show _ = 0 by decide) (by decide)) (by decide)) (rg_c (v := 1) (lo := 1) (hi := 1) (by decide)) (by decide)) (by decide)) hT hF hLF_20 hP hD hS (lv_sub hl [0, 2, 3, 4, 5, 6] rfl)
          · refine lv_aload_n hx hb dX5_firstRoad_72 rfl (lv_at hl 2 rfl) ?_
            refine va_get (D := D) (ci := 5) (v := .ref (a 27)) (C := RX5) (T := TX5) (N := 7) hx hb htg ig_5 hown hK hP 3 (oh_wg (by decide) (sX_3 hT)) rfl 5 (by decide) (htg _ q_174) (fun _ h9 => h9) rfl dX5_firstRoad_73 ?_
            refine lv_iload hx hb dX5_firstRoad_76 (lv_at hl 0 rfl) ?_
            have n_25 : vp_in r_18 16 := (rg_in (rn_nel (l' := 0) c_22 hq_19 (rg_c (v := (-1)) (lo := (-1)) (hi := (-1)) (by decide)) (by decide)) (by decide))
            refine th_iald hx hb hK hP 27 (by decide) (Eq.trans (hLF_20.1 27 rfl (by decide)) (sX_27 t_15)) n_25 dX5_firstRoad_78 ?_
            refine lv_aload_n hx hb dX5_firstRoad_79 rfl (lv_at hl 2 rfl) ?_
            refine va_get (D := D) (ci := 5) (v := .ref (a 26)) (C := RX5) (T := TX5) (N := 7) hx hb htg ig_5 hown hK hP 3 (oh_wg (by decide) (sX_3 hT)) rfl 4 (by decide) (htg _ q_173) (fun _ h9 => h9) rfl dX5_firstRoad_80 ?_
            refine lv_iload hx hb dX5_firstRoad_83 (lv_at hl 1 rfl) ?_
            have n_26 : vp_in z20_5 24 := (rg_in (rn_ltu (u' := 23) (Int32.not_le.mp c_17) hz20_5 (tA_rdc (lo := 0) (hi := 24) (tX_10 hT0) (rg_in (rg_c (v := 0) (lo := 0) (hi := 0) (by decide)) (by decide)) (show _ = 0 by decide) (by decide)) (by decide)) (by decide))
            refine th_iald hx hb hK hP 26 (by decide) (Eq.trans (Eq.trans (hLF_20.1 26 rfl (by decide)) (f_14.1 26 rfl (by decide))) (sX_26 t_10)) n_26 dX5_firstRoad_85 ?_
            refine lv_iadd hx hb dX5_firstRoad_86 ?_
            refine lv_aload_n hx hb dX5_firstRoad_87 rfl (lv_at hl 2 rfl) ?_
            refine va_get (D := D) (ci := 5) (v := .ref (a 27)) (C := RX5) (T := TX5) (N := 7) hx hb htg ig_5 hown hK hP 3 (oh_wg (by decide) (sX_3 hT)) rfl 5 (by decide) (htg _ q_174) (fun _ h9 => h9) rfl dX5_firstRoad_88 ?_
            refine lv_iload_n hx hb dX5_firstRoad_91 rfl (lv_at hl 5 rfl) ?_
            have n_27 : vp_in x3 16 := (rg_in hx3 (by decide))
            refine th_iald hx hb hK hP 27 (by decide) (Eq.trans (hLF_20.1 27 rfl (by decide)) (sX_27 t_15)) n_27 dX5_firstRoad_92 ?_
            refine lv_icmp_ne (tgt := 99) hx hb dX5_firstRoad_93 (by decide) (fun (c_28 : ¬ (((ga (C_12 27) (r_18).toNatClampNeg) + (ga (C_7 26) (z20_5).toNatClampNeg)) = (ga (C_12 27) (x3).toNatClampNeg))) => ?_) (fun (c_28 : ((ga (C_12 27) (r_18).toNatClampNeg) + (ga (C_7 26) (z20_5).toNatClampNeg)) = (ga (C_12 27) (x3).toNatClampNeg)) => ?_)
            · refine lv_iinc (v := z20_5 + 1) (lv' := [(5, .int (z20_5 + 1)), (6, .int r_18), (0, .ref (a 3)), (1, .int x1), (2, .int x2), (3, .int x3), (4, .int x4)]) hx hb dX5_firstRoad_99 hl (k := 1) rfl (by rfl) (by decide) rfl (fun ls hl => ?_)
              refine lv_goto (tgt := 20) hx hb dX5_firstRoad_102 (by decide) ?_
              exact ih_20 _ (hd_20 ▸ mu_up 24 (rn_ltu (u' := 23) (Int32.not_le.mp c_17) hz20_5 (tA_rdc (lo := 0) (hi := 24) (tX_10 hT0) (rg_in (rg_c (v := 0) (lo := 0) (hi := 0) (by decide)) (by decide)) (show _ = 0 by decide) (by decide)) (by decide)) (by decide)) K20 (z20_5 + 1) _ _ ls rfl (rg_w (rg_add (lo := 1) (hi := 24) (rn_ltu (u' := 23) (Int32.not_le.mp c_17) hz20_5 (tA_rdc (lo := 0) (hi := 24) (tX_10 hT0) (rg_in (rg_c (v := 0) (lo := 0) (hi := 0) (by decide)) (by decide)) (show _ = 0 by decide) (by decide)) (by decide)) (rg_c (v := 1) (lo := 1) (hi := 1) (by decide)) (by decide)) (by decide)) hT hF hLF_20 hP hD hS (lv_sub hl [0, 2, 3, 4, 5, 6] rfl)
            · refine lv_iload hx hb dX5_firstRoad_96 (lv_at hl 1 rfl) ?_
              rw [hQ]
              exact W.iret (v := z20_5) hx hb hr (fun t ht hW => ⟨⟨z20_5, K20, rfl, ⟨hT, hF, (rg_w (rn_ltu (u' := 23) (Int32.not_le.mp c_17) hz20_5 (tA_rdc (lo := 0) (hi := 24) (tX_10 hT0) (rg_in (rg_c (v := 0) (lo := 0) (hi := 0) (by decide)) (by decide)) (show _ = 0 by decide) (by decide)) (by decide)) (by decide))⟩, ⟨by rw [ht]; exact hP, hD⟩⟩, hS.F ht⟩) hS.2.2 dX5_firstRoad_98
  exact L_20 _ C_12 0 _ _ ls rfl (rg_w (rg_c (v := 0) (lo := 0) (hi := 0) (by decide)) (by decide)) hT hF fr_rf hP hD hS (lv_sub hl [0, 1, 2, 3, 4, 5] rfl)

set_option maxHeartbeats 4000000 in
set_option maxRecDepth 100000 in
theorem c_X5_setOut (l : Launch) (D : va_G) (E : Nat → ClassId) (G : Nat → Nat) (sz : Nat) (a : Nat → Nat) (C : Nat → va_E) (hT : TyX a E C) (x1 : Int32) (hx1 : rg x1 0 15) : Met l yX5_setOut (oh_w yX5_setOut cX5_setOut 2 none) ({ frames := 0, cells := 0, slots := 0, locals := 0 }) (oh_Pm D E G [.ref (a 3), .int x1] (oh_W 35 a C) sz) (va_Qv (fun (u : Nat → va_E) => TyX a E u ∧ fr [(28, 29)] [] C u ∧ True) (oh_B D (va_A (oh_W 35 a C) sz) (fun u => oh_W 35 a u)) (va_A (oh_W 35 a C) sz)) 0 0 (va_A (oh_W 35 a C) sz) := by
  refine Met.ofW (cc := cX5_setOut) (maxL := 2) (ret := none) (by decide) rfl ?_
  intro p e s m args below meth c s₁ B hml hv
  obtain ⟨rfl, hsz, hP, hK, hD0, hG⟩ := hv
  have hx := B.exec
  have hb := B.bytes
  have hr := B.returns
  have hts := atoms_spec (ws := (oh_w yX5_setOut cX5_setOut 2 none)) B.pre
  have htg : ∀ w ∈ oh_t, w.before _ s = true := fun w h => hts w (List.mem_cons_of_mem _ h)
  have hown : s.vm.findClass RX5 = some m.cls := findClass_of_methodNamed B.named
  have hlocks := B.notSynchronized
  have hT0 := hT
  subst hsz
  have hD := hD0.self (sz := s.heap.size)
  generalize hAe : va_A (oh_W 35 a C) s.heap.size = A at hD hG ⊢
  have hA : ∀ q : Nat, s.heap.size ≤ q → A q := fun q h => by rw [← hAe]; exact Or.inr h
  have hS : va_S A s.heap s.heap [] := va_S.rf
  have hF : fr [(28, 29)] [] C C := fr_rf
  have hl := lv_entry ([.ref (a 3), .int x1]) (n := 2) (Nat.le_of_ble_eq_true rfl)
  rw [lg_entry_eq]
  generalize (lg_sl ([.ref (a 3), .int x1]) ++ List.replicate (2 - (lg_sl ([.ref (a 3), .int x1])).length) Slot.unset).toArray = ls at hl ⊢
  have hl : lv_has ls 2 [(0, .ref (a 3)), (1, .int x1)] := hl
  refine oh_genQ (fun Q hQ => ?_)
  refine lv_aload_n hx hb dX5_setOut_0 rfl (lv_at hl 0 rfl) ?_
  refine va_get (D := D) (ci := 5) (v := .ref (a 28)) (C := RX5) (T := TX5) (N := 7) hx hb htg ig_5 hown hK hP 3 (oh_wg (by decide) (sX_3 hT)) rfl 6 (by decide) (htg _ q_175) (fun _ h9 => h9) rfl dX5_setOut_1 ?_
  refine lv_iconst (v := 0) hx hb dX5_setOut_4 (by decide) ?_
  refine lv_iconst (v := 0) hx hb dX5_setOut_5 (by decide) ?_
  refine th_iast (T := TyX a E) (Rl := fr [(28, 29)] [] C) hx hb hK hP hD hS 28 (by decide) (sX_28 hT) (rg_in (rg_c (v := 0) (lo := 0) (hi := 0) (by decide)) (by decide)) (hT.up 28 (tA_upd (tX_28 hT) (tA_stc (show _ = 0 by decide) (rg_c (v := 0) (lo := 0) (hi := 0) (by decide)) (by decide)))) (fr_st hF (by decide) (by decide)) dX5_setOut_6 (fun C_1 H locs e_2 hT hF hP hD hS => ?_)
  have t_3 := hT
  refine lv_aload_n hx hb dX5_setOut_7 rfl (lv_at hl 0 rfl) ?_
  refine va_get (D := D) (ci := 5) (v := .ref (a 28)) (C := RX5) (T := TX5) (N := 7) hx hb htg ig_5 hown hK hP 3 (oh_wg (by decide) (sX_3 hT)) rfl 6 (by decide) (htg _ q_175) (fun _ h9 => h9) rfl dX5_setOut_8 ?_
  refine lv_iconst (v := 1) hx hb dX5_setOut_11 (by decide) ?_
  refine lv_iconst (v := 0) hx hb dX5_setOut_12 (by decide) ?_
  refine th_iast (T := TyX a E) (Rl := fr [(28, 29)] [] C) hx hb hK hP hD hS 28 (by decide) (sX_28 hT) (rg_in (rg_c (v := 1) (lo := 1) (hi := 1) (by decide)) (by decide)) (hT.up 28 (tA_upd (tX_28 hT) (tA_stc (show _ = 1 by decide) (rg_c (v := 0) (lo := 0) (hi := 0) (by decide)) (by decide)))) (fr_st hF (by decide) (by decide)) dX5_setOut_13 (fun C_4 H locs e_5 hT hF hP hD hS => ?_)
  have t_6 := hT
  refine lv_aload_n hx hb dX5_setOut_14 rfl (lv_at hl 0 rfl) ?_
  refine va_get (D := D) (ci := 5) (v := .ref (a 28)) (C := RX5) (T := TX5) (N := 7) hx hb htg ig_5 hown hK hP 3 (oh_wg (by decide) (sX_3 hT)) rfl 6 (by decide) (htg _ q_175) (fun _ h9 => h9) rfl dX5_setOut_15 ?_
  refine lv_iconst (v := 2) hx hb dX5_setOut_18 (by decide) ?_
  refine lv_iconst (v := 0) hx hb dX5_setOut_19 (by decide) ?_
  refine th_iast (T := TyX a E) (Rl := fr [(28, 29)] [] C) hx hb hK hP hD hS 28 (by decide) (sX_28 hT) (rg_in (rg_c (v := 2) (lo := 2) (hi := 2) (by decide)) (by decide)) (hT.up 28 (tA_upd (tX_28 hT) (tA_stc (show _ = 2 by decide) (rg_c (v := 0) (lo := 0) (hi := 0) (by decide)) (by decide)))) (fr_st hF (by decide) (by decide)) dX5_setOut_20 (fun C_7 H locs e_8 hT hF hP hD hS => ?_)
  have t_9 := hT
  refine lv_aload_n hx hb dX5_setOut_21 rfl (lv_at hl 0 rfl) ?_
  refine va_get (D := D) (ci := 5) (v := .ref (a 28)) (C := RX5) (T := TX5) (N := 7) hx hb htg ig_5 hown hK hP 3 (oh_wg (by decide) (sX_3 hT)) rfl 6 (by decide) (htg _ q_175) (fun _ h9 => h9) rfl dX5_setOut_22 ?_
  refine lv_iconst (v := 3) hx hb dX5_setOut_25 (by decide) ?_
  refine lv_iload_n hx hb dX5_setOut_26 rfl (lv_at hl 1 rfl) ?_
  refine th_iast (T := TyX a E) (Rl := fr [(28, 29)] [] C) hx hb hK hP hD hS 28 (by decide) (sX_28 hT) (rg_in (rg_c (v := 3) (lo := 3) (hi := 3) (by decide)) (by decide)) (hT.up 28 (tA_upd (tX_28 hT) (tA_stc (show _ = 3 by decide) hx1 (by decide)))) (fr_st hF (by decide) (by decide)) dX5_setOut_27 (fun C_10 H locs e_11 hT hF hP hD hS => ?_)
  have t_12 := hT
  rw [hQ]
  exact W.vret hx hb hr (fun t ht hW => ⟨⟨C_10, rfl, ⟨hT, hF, trivial⟩, ⟨by rw [ht]; exact hP, hD⟩⟩, hS.F ht⟩) hS.2.2 dX5_setOut_28

set_option maxHeartbeats 4000000 in
set_option maxRecDepth 100000 in
theorem c_X5_walk (l : Launch) (D : va_G) (E : Nat → ClassId) (G : Nat → Nat) (sz : Nat) (a : Nat → Nat) (C : Nat → va_E) (hT : TyX a E C) (x1 : Int64) : Met l yX5_walk (oh_w yX5_walk cX5_walk 5 (some .boolean)) ({ frames := 3, cells := 0, slots := 0, locals := 65 }) (oh_Pm D E G [.ref (a 3), .long x1] (oh_W 35 a C) sz) (va_Qi (fun r (u : Nat → va_E) => TyX a E u ∧ fr [(28, 29)] [] C u ∧ (r = 0 ∨ r = 1)) (oh_B D (va_A (oh_W 35 a C) sz) (fun u => oh_W 35 a u)) (va_A (oh_W 35 a C) sz)) 0 0 (va_A (oh_W 35 a C) sz) := by
  refine Met.ofW (cc := cX5_walk) (maxL := 5) (ret := (some .boolean)) (by decide) rfl ?_
  intro p e s m args below meth c s₁ B hml hv
  obtain ⟨rfl, hsz, hP, hK, hD0, hG⟩ := hv
  have hx := B.exec
  have hb := B.bytes
  have hr := B.returns
  have hts := atoms_spec (ws := (oh_w yX5_walk cX5_walk 5 (some .boolean))) B.pre
  have htg : ∀ w ∈ oh_t, w.before _ s = true := fun w h => hts w (List.mem_cons_of_mem _ h)
  have hown : s.vm.findClass RX5 = some m.cls := findClass_of_methodNamed B.named
  have hlocks := B.notSynchronized
  have hT0 := hT
  subst hsz
  have hD := hD0.self (sz := s.heap.size)
  generalize hAe : va_A (oh_W 35 a C) s.heap.size = A at hD hG ⊢
  have hA : ∀ q : Nat, s.heap.size ≤ q → A q := fun q h => by rw [← hAe]; exact Or.inr h
  have hS : va_S A s.heap s.heap [] := va_S.rf
  have hF : fr [(28, 29)] [] C C := fr_rf
  have hl := lv_entry ([.ref (a 3), .long x1]) (n := 5) (Nat.le_of_ble_eq_true rfl)
  rw [lg_entry_eq]
  generalize (lg_sl ([.ref (a 3), .long x1]) ++ List.replicate (5 - (lg_sl ([.ref (a 3), .long x1])).length) Slot.unset).toArray = ls at hl ⊢
  have hl : lv_has ls 5 [(0, .ref (a 3)), (1, .long x1)] := hl
  refine oh_genQ (fun Q hQ => ?_)
  refine lv_lload_n hx hb dX5_walk_0 rfl (lv_at hl 1 rfl) ?_
  refine lv_lconst (v := 0) hx hb dX5_walk_1 (by decide) ?_
  refine W.lcmp hx hb dX5_walk_2 ?_
  refine lv_if_lt (tgt := 21) hx hb dX5_walk_3 (by decide) (fun (c_1 : (lg_cmp x1 0) < 0) => ?_) (fun (c_1 : ¬ ((lg_cmp x1 0) < 0)) => ?_)
  · refine lv_iconst (v := 0) hx hb dX5_walk_21 (by decide) ?_
    rw [hQ]
    exact W.zret (v := 0) (ty := .boolean) hx hb hr (by decide) (fun t ht hW => ⟨⟨0, C, rfl, ⟨hT, hF, (Or.inl rfl)⟩, ⟨by rw [ht]; exact hP, hD⟩⟩, hS.F ht⟩) hS.2.2 dX5_walk_22
  · refine lv_lload_n hx hb dX5_walk_6 rfl (lv_at hl 1 rfl) ?_
    refine lv_aload_n hx hb dX5_walk_7 rfl (lv_at hl 0 rfl) ?_
    refine va_get (D := D) (ci := 5) (v := .ref (a 1)) (C := RX5) (T := TX5) (N := 7) hx hb htg ig_5 hown hK hP 3 (oh_wg (by decide) (sX_3 hT)) rfl 0 (by decide) (htg _ q_167) (fun _ h9 => h9) rfl dX5_walk_8 ?_
    refine va_get (D := D) (ci := 0) (v := .ref (a 10)) (C := RX0) (T := TX0) (N := 8) hx hb htg ig_0 hown hK hP 1 (oh_wg (by decide) (sX_1 hT)) rfl 0 (by decide) (htg _ q_99) (fun _ h9 => h9) rfl dX5_walk_11 ?_
    refine lv_iconst (v := 0) hx hb dX5_walk_14 (by decide) ?_
    refine th_iald hx hb hK hP 10 (by decide) (sX_10 hT) (rg_in (rg_c (v := 0) (lo := 0) (hi := 0) (by decide)) (by decide)) dX5_walk_15 ?_
    refine lv_i2l (v := Int32.toInt64 (ga (C 10) ((0 : Int32)).toNatClampNeg)) hx hb dX5_walk_16 (by rfl) ?_
    refine W.lcmp hx hb dX5_walk_17 ?_
    refine lv_if_lt (tgt := 23) hx hb dX5_walk_18 (by decide) (fun (c_2 : (lg_cmp x1 (Int32.toInt64 (ga (C 10) ((0 : Int32)).toNatClampNeg))) < 0) => ?_) (fun (c_2 : ¬ ((lg_cmp x1 (Int32.toInt64 (ga (C 10) ((0 : Int32)).toNatClampNeg))) < 0)) => ?_)
    · refine lv_lload_n hx hb dX5_walk_23 rfl (lv_at hl 1 rfl) ?_
      refine lv_l2i (v := Int64.toInt32 x1) hx hb dX5_walk_24 rfl ?_
      refine lv_istore_n (lv' := [(3, .int (Int64.toInt32 x1)), (0, .ref (a 3)), (1, .long x1)]) hx hb dX5_walk_25 rfl hl (by decide) rfl (fun ls hl => ?_)
      refine lv_aload_n hx hb dX5_walk_26 rfl (lv_at hl 1 rfl) ?_
      refine lv_iload_n hx hb dX5_walk_27 rfl (lv_at hl 0 rfl) ?_
      refine lv_aload_n hx hb dX5_walk_28 rfl (lv_at hl 1 rfl) ?_
      refine va_get (D := D) (ci := 5) (v := .ref (a 28)) (C := RX5) (T := TX5) (N := 7) hx hb htg ig_5 hown hK hP 3 (oh_wg (by decide) (sX_3 hT)) rfl 6 (by decide) (htg _ q_175) (fun _ h9 => h9) rfl dX5_walk_29 ?_
      refine lv_iconst (v := 3) hx hb dX5_walk_32 (by decide) ?_
      refine th_iald hx hb hK hP 28 (by decide) (sX_28 hT) (rg_in (rg_c (v := 3) (lo := 3) (hi := 3) (by decide)) (by decide)) dX5_walk_33 ?_
      refine tq_V (As := [.int (Int64.toInt32 x1), .int (ga (C 28) ((3 : Int32)).toNatClampNeg)]) (rest := []) (ws := (oh_W 35 a C)) ⟨hx, hb, hml, hown, htg⟩ (c_X5_otherEnd l D E G a C hT (Int64.toInt32 x1) (ga (C 28) ((3 : Int32)).toNatClampNeg) (rg_w (rg_l2i (rnL_ltu (u' := 23) (oh_lc_lt c_2) (rnL_lel (oh_lc_nlt c_1) (rgL_c (v := 0) (lo := 0) (hi := 0) (by decide)) (rgL_any _)) (rgL_i (tA_rdc (lo := 0) (hi := 24) (tX_10 hT0) (rg_in (rg_c (v := 0) (lo := 0) (hi := 0) (by decide)) (by decide)) (show _ = 0 by decide) (by decide))) (by decide)) (by decide)) (by decide))) (cwV 2 htg (oh_gV q_846 q_848 q_25 q_68 q_849) rfl rfl rfl pdVX5_otherEnd ⟨Nat.le_of_ble_eq_true rfl, Nat.le_of_ble_eq_true rfl⟩) hK hP hG hS (va_recv hK hP (ci := 5) (q0 := 3) rfl (oh_wg (by decide) (sX_3 hT))) rfl hl.1 rfl (Nat.le_of_ble_eq_true rfl) dX5_walk_34 ⟨Nat.le_of_ble_eq_true rfl, Nat.le_of_ble_eq_true rfl⟩ (fun r_3 hq_4 => ?_)
      refine lv_istore (lv' := [(4, .int r_3), (3, .int (Int64.toInt32 x1)), (0, .ref (a 3)), (1, .long x1)]) hx hb dX5_walk_37 hl (by decide) rfl (fun ls hl => ?_)
      refine lv_aload_n hx hb dX5_walk_39 rfl (lv_at hl 2 rfl) ?_
      refine va_get (D := D) (ci := 5) (v := .ref (a 24)) (C := RX5) (T := TX5) (N := 7) hx hb htg ig_5 hown hK hP 3 (oh_wg (by decide) (sX_3 hT)) rfl 2 (by decide) (htg _ q_170) (fun _ h9 => h9) rfl dX5_walk_40 ?_
      refine lv_iload_n hx hb dX5_walk_43 rfl (lv_at hl 1 rfl) ?_
      have n_5 : vp_in (Int64.toInt32 x1) 24 := (rg_in (rg_l2i (rnL_ltu (u' := 23) (oh_lc_lt c_2) (rnL_lel (oh_lc_nlt c_1) (rgL_c (v := 0) (lo := 0) (hi := 0) (by decide)) (rgL_any _)) (rgL_i (tA_rdc (lo := 0) (hi := 24) (tX_10 hT0) (rg_in (rg_c (v := 0) (lo := 0) (hi := 0) (by decide)) (by decide)) (show _ = 0 by decide) (by decide))) (by decide)) (by decide)) (by decide))
      refine th_iald hx hb hK hP 24 (by decide) (sX_24 hT) n_5 dX5_walk_44 ?_
      refine lv_iconst (v := (-1)) hx hb dX5_walk_45 (by decide) ?_
      refine lv_icmp_eq (tgt := 55) hx hb dX5_walk_46 (by decide) (fun (c_6 : (ga (C 24) (Int64.toInt32 x1).toNatClampNeg) = (-1)) => ?_) (fun (c_6 : ¬ ((ga (C 24) (Int64.toInt32 x1).toNatClampNeg) = (-1))) => ?_)
      · refine lv_iconst (v := 0) hx hb dX5_walk_55 (by decide) ?_
        rw [hQ]
        exact W.zret (v := 0) (ty := .boolean) hx hb hr (by decide) (fun t ht hW => ⟨⟨0, C, rfl, ⟨hT, hF, (Or.inl rfl)⟩, ⟨by rw [ht]; exact hP, hD⟩⟩, hS.F ht⟩) hS.2.2 dX5_walk_56
      · refine lv_iload hx hb dX5_walk_49 (lv_at hl 0 rfl) ?_
        refine lv_iconst (v := (-1)) hx hb dX5_walk_51 (by decide) ?_
        refine lv_icmp_ne (tgt := 57) hx hb dX5_walk_52 (by decide) (fun (c_7 : ¬ (r_3 = (-1))) => ?_) (fun (c_7 : r_3 = (-1)) => ?_)
        · refine lv_aload_n hx hb dX5_walk_57 rfl (lv_at hl 2 rfl) ?_
          refine va_get (D := D) (ci := 5) (v := .ref (a 28)) (C := RX5) (T := TX5) (N := 7) hx hb htg ig_5 hown hK hP 3 (oh_wg (by decide) (sX_3 hT)) rfl 6 (by decide) (htg _ q_175) (fun _ h9 => h9) rfl dX5_walk_58 ?_
          refine lv_iconst (v := 0) hx hb dX5_walk_61 (by decide) ?_
          refine lv_dup2_11 hx hb dX5_walk_62 rfl rfl ?_
          refine th_iald hx hb hK hP 28 (by decide) (sX_28 hT) (rg_in (rg_c (v := 0) (lo := 0) (hi := 0) (by decide)) (by decide)) dX5_walk_63 ?_
          refine lv_aload_n hx hb dX5_walk_64 rfl (lv_at hl 2 rfl) ?_
          refine lv_iload_n hx hb dX5_walk_65 rfl (lv_at hl 1 rfl) ?_
          refine lv_iconst (v := 1) hx hb dX5_walk_66 (by decide) ?_
          refine tq_V (As := [.int (Int64.toInt32 x1), .int 1]) (rest := [.int (ga (C 28) ((0 : Int32)).toNatClampNeg), .int 0, .ref (a 28)]) (ws := (oh_W 35 a C)) ⟨hx, hb, hml, hown, htg⟩ (c_X5_coinOf l D E G a C hT (Int64.toInt32 x1) (1 : Int32) (rg_w (rg_l2i (rnL_ltu (u' := 23) (oh_lc_lt c_2) (rnL_lel (oh_lc_nlt c_1) (rgL_c (v := 0) (lo := 0) (hi := 0) (by decide)) (rgL_any _)) (rgL_i (tA_rdc (lo := 0) (hi := 24) (tX_10 hT0) (rg_in (rg_c (v := 0) (lo := 0) (hi := 0) (by decide)) (by decide)) (show _ = 0 by decide) (by decide))) (by decide)) (by decide)) (by decide))) (cwV 2 htg (oh_gV q_789 q_763 q_764 q_68 q_765) rfl rfl rfl pdVX5_coinOf ⟨Nat.le_of_ble_eq_true rfl, Nat.le_of_ble_eq_true rfl⟩) hK hP hG hS (va_recv hK hP (ci := 5) (q0 := 3) rfl (oh_wg (by decide) (sX_3 hT))) rfl hl.1 rfl (Nat.le_of_ble_eq_true rfl) dX5_walk_67 ⟨Nat.le_of_ble_eq_true rfl, Nat.le_of_ble_eq_true rfl⟩ (fun r_8 hq_9 => ?_)
          refine lv_iadd hx hb dX5_walk_70 ?_
          refine th_iast (T := TyX a E) (Rl := fr [(28, 29)] [] C) hx hb hK hP hD hS 28 (by decide) (sX_28 hT) (rg_in (rg_c (v := 0) (lo := 0) (hi := 0) (by decide)) (by decide)) (hT.up 28 (tA_upd (tX_28 hT) (tA_stc (show _ = 0 by decide) (rg_any _) (by decide)))) (fr_st hF (by decide) (by decide)) dX5_walk_71 (fun C_10 H locs e_11 hT hF hP hD hS => ?_)
          have t_12 := hT
          refine lv_aload_n hx hb dX5_walk_72 rfl (lv_at hl 2 rfl) ?_
          refine va_get (D := D) (ci := 5) (v := .ref (a 28)) (C := RX5) (T := TX5) (N := 7) hx hb htg ig_5 hown hK hP 3 (oh_wg (by decide) (sX_3 hT)) rfl 6 (by decide) (htg _ q_175) (fun _ h9 => h9) rfl dX5_walk_73 ?_
          refine lv_iconst (v := 1) hx hb dX5_walk_76 (by decide) ?_
          refine lv_dup2_11 hx hb dX5_walk_77 rfl rfl ?_
          refine th_iald hx hb hK hP 28 (by decide) (sX_28 hT) (rg_in (rg_c (v := 1) (lo := 1) (hi := 1) (by decide)) (by decide)) dX5_walk_78 ?_
          refine lv_aload_n hx hb dX5_walk_79 rfl (lv_at hl 2 rfl) ?_
          refine lv_iload_n hx hb dX5_walk_80 rfl (lv_at hl 1 rfl) ?_
          refine tq_V (As := [.int (Int64.toInt32 x1)]) (rest := [.int (ga (C_10 28) ((1 : Int32)).toNatClampNeg), .int 1, .ref (a 28)]) (ws := (oh_W 35 a C_10)) ⟨hx, hb, hml, hown, htg⟩ (c_X5_daysOf l D E G a C_10 hT (Int64.toInt32 x1) (rg_w (rg_l2i (rnL_ltu (u' := 23) (oh_lc_lt c_2) (rnL_lel (oh_lc_nlt c_1) (rgL_c (v := 0) (lo := 0) (hi := 0) (by decide)) (rgL_any _)) (rgL_i (tA_rdc (lo := 0) (hi := 24) (tX_10 hT0) (rg_in (rg_c (v := 0) (lo := 0) (hi := 0) (by decide)) (by decide)) (show _ = 0 by decide) (by decide))) (by decide)) (by decide)) (by decide))) (cwV 1 htg (oh_gV q_812 q_768 q_769 q_68 q_770) rfl rfl rfl pdVX5_daysOf ⟨Nat.le_of_ble_eq_true rfl, Nat.le_of_ble_eq_true rfl⟩) hK hP hG hS (va_recv hK hP (ci := 5) (q0 := 3) rfl (oh_wg (by decide) (sX_3 hT))) rfl hl.1 rfl (Nat.le_of_ble_eq_true rfl) dX5_walk_81 ⟨Nat.le_of_ble_eq_true rfl, Nat.le_of_ble_eq_true rfl⟩ (fun r_13 hq_14 => ?_)
          refine lv_iadd hx hb dX5_walk_84 ?_
          refine th_iast (T := TyX a E) (Rl := fr [(28, 29)] [] C) hx hb hK hP hD hS 28 (by decide) (sX_28 hT) (rg_in (rg_c (v := 1) (lo := 1) (hi := 1) (by decide)) (by decide)) (hT.up 28 (tA_upd (tX_28 hT) (tA_stc (show _ = 1 by decide) (rg_any _) (by decide)))) (fr_st hF (by decide) (by decide)) dX5_walk_85 (fun C_15 H locs e_16 hT hF hP hD hS => ?_)
          have t_17 := hT
          refine lv_aload_n hx hb dX5_walk_86 rfl (lv_at hl 2 rfl) ?_
          refine va_get (D := D) (ci := 5) (v := .ref (a 28)) (C := RX5) (T := TX5) (N := 7) hx hb htg ig_5 hown hK hP 3 (oh_wg (by decide) (sX_3 hT)) rfl 6 (by decide) (htg _ q_175) (fun _ h9 => h9) rfl dX5_walk_87 ?_
          refine lv_iconst (v := 2) hx hb dX5_walk_90 (by decide) ?_
          refine lv_dup2_11 hx hb dX5_walk_91 rfl rfl ?_
          refine th_iald hx hb hK hP 28 (by decide) (sX_28 hT) (rg_in (rg_c (v := 2) (lo := 2) (hi := 2) (by decide)) (by decide)) dX5_walk_92 ?_
          refine lv_iconst (v := 1) hx hb dX5_walk_93 (by decide) ?_
          refine lv_aload_n hx hb dX5_walk_94 rfl (lv_at hl 2 rfl) ?_
          refine va_get (D := D) (ci := 5) (v := .ref (a 1)) (C := RX5) (T := TX5) (N := 7) hx hb htg ig_5 hown hK hP 3 (oh_wg (by decide) (sX_3 hT)) rfl 0 (by decide) (htg _ q_167) (fun _ h9 => h9) rfl dX5_walk_95 ?_
          refine lv_iload_n hx hb dX5_walk_98 rfl (lv_at hl 1 rfl) ?_
          refine lv_iconst (v := 5) hx hb dX5_walk_99 (by decide) ?_
          refine tq_V (As := [.int (Int64.toInt32 x1), .int 5]) (rest := [.int 1, .int (ga (C_15 28) ((2 : Int32)).toNatClampNeg), .int 2, .ref (a 28)]) (ws := (oh_W 35 a C_15)) ⟨hx, hb, hml, hown, htg⟩ (c_X0_ofRoad l D E G a C_15 hT (Int64.toInt32 x1) (5 : Int32) (rg_w (rg_l2i (rnL_ltu (u' := 23) (oh_lc_lt c_2) (rnL_lel (oh_lc_nlt c_1) (rgL_c (v := 0) (lo := 0) (hi := 0) (by decide)) (rgL_any _)) (rgL_i (tA_rdc (lo := 0) (hi := 24) (tX_10 hT0) (rg_in (rg_c (v := 0) (lo := 0) (hi := 0) (by decide)) (by decide)) (show _ = 0 by decide) (by decide))) (by decide)) (by decide)) (by decide)) (rg_w (rg_c (v := 5) (lo := 5) (hi := 5) (by decide)) (by decide))) (cwV 2 htg (oh_gV q_755 q_480 q_481 q_67 q_482) rfl rfl rfl pdVX0_ofRoad ⟨Nat.le_of_ble_eq_true rfl, Nat.le_of_ble_eq_true rfl⟩) hK hP hG hS (va_recv hK hP (ci := 0) (q0 := 1) rfl (oh_wg (by decide) (sX_1 hT))) rfl hl.1 rfl (Nat.le_of_ble_eq_true rfl) dX5_walk_100 ⟨Nat.le_of_ble_eq_true rfl, Nat.le_of_ble_eq_true rfl⟩ (fun r_18 hq_19 => ?_)
          subst hq_19
          refine lv_ishl hx hb dX5_walk_103 ?_
          refine lv_ior hx hb dX5_walk_104 ?_
          refine th_iast (T := TyX a E) (Rl := fr [(28, 29)] [] C) hx hb hK hP hD hS 28 (by decide) (sX_28 hT) (rg_in (rg_c (v := 2) (lo := 2) (hi := 2) (by decide)) (by decide)) (hT.up 28 (tA_upd (tX_28 hT) (tA_stc (show _ = 2 by decide) (rg_any _) (by decide)))) (fr_st hF (by decide) (by decide)) dX5_walk_105 (fun C_20 H locs e_21 hT hF hP hD hS => ?_)
          have t_22 := hT
          refine lv_aload_n hx hb dX5_walk_106 rfl (lv_at hl 2 rfl) ?_
          refine va_get (D := D) (ci := 5) (v := .ref (a 28)) (C := RX5) (T := TX5) (N := 7) hx hb htg ig_5 hown hK hP 3 (oh_wg (by decide) (sX_3 hT)) rfl 6 (by decide) (htg _ q_175) (fun _ h9 => h9) rfl dX5_walk_107 ?_
          refine lv_iconst (v := 3) hx hb dX5_walk_110 (by decide) ?_
          refine lv_iload hx hb dX5_walk_111 (lv_at hl 0 rfl) ?_
          refine th_iast (T := TyX a E) (Rl := fr [(28, 29)] [] C) hx hb hK hP hD hS 28 (by decide) (sX_28 hT) (rg_in (rg_c (v := 3) (lo := 3) (hi := 3) (by decide)) (by decide)) (hT.up 28 (tA_upd (tX_28 hT) (tA_stc (show _ = 3 by decide) (rn_nel (l' := 0) c_7 hq_4 (rg_c (v := (-1)) (lo := (-1)) (hi := (-1)) (by decide)) (by decide)) (by decide)))) (fr_st hF (by decide) (by decide)) dX5_walk_113 (fun C_23 H locs e_24 hT hF hP hD hS => ?_)
          have t_25 := hT
          refine lv_iconst (v := 1) hx hb dX5_walk_114 (by decide) ?_
          rw [hQ]
          exact W.zret (v := 1) (ty := .boolean) hx hb hr (by decide) (fun t ht hW => ⟨⟨1, C_23, rfl, ⟨hT, hF, (Or.inr rfl)⟩, ⟨by rw [ht]; exact hP, hD⟩⟩, hS.F ht⟩) hS.2.2 dX5_walk_115
        · refine lv_iconst (v := 0) hx hb dX5_walk_55 (by decide) ?_
          rw [hQ]
          exact W.zret (v := 0) (ty := .boolean) hx hb hr (by decide) (fun t ht hW => ⟨⟨0, C, rfl, ⟨hT, hF, (Or.inl rfl)⟩, ⟨by rw [ht]; exact hP, hD⟩⟩, hS.F ht⟩) hS.2.2 dX5_walk_56
    · refine lv_iconst (v := 0) hx hb dX5_walk_21 (by decide) ?_
      rw [hQ]
      exact W.zret (v := 0) (ty := .boolean) hx hb hr (by decide) (fun t ht hW => ⟨⟨0, C, rfl, ⟨hT, hF, (Or.inl rfl)⟩, ⟨by rw [ht]; exact hP, hD⟩⟩, hS.F ht⟩) hS.2.2 dX5_walk_22
theorem bg_dX3_asSort_0 : bysAt cX3_asSort 0 [26] := bysAt_of (by decide +kernel)
theorem dX3_asSort_0 : decode cX3_asSort 0 = .ok (.iload_n 0, 1) := o_26 (bg_dX3_asSort_0 0 26 rfl)
theorem bg_dX3_asSort_36 : bysAt cX3_asSort 36 [31, 136, 145, 133, 173, 31, 136, 147, 133, 173, 31, 136, 133, 173] := bysAt_of (by decide +kernel)
theorem dX3_asSort_36 : decode cX3_asSort 36 = .ok (.lload_n 1, 1) := o_31 (bg_dX3_asSort_36 0 31 rfl)
theorem dX3_asSort_37 : decode cX3_asSort 37 = .ok (.l2i, 1) := o_136 (bg_dX3_asSort_36 1 136 rfl)
theorem dX3_asSort_38 : decode cX3_asSort 38 = .ok (.i2b, 1) := o_145 (bg_dX3_asSort_36 2 145 rfl)
theorem dX3_asSort_39 : decode cX3_asSort 39 = .ok (.i2l, 1) := o_133 (bg_dX3_asSort_36 3 133 rfl)
theorem dX3_asSort_40 : decode cX3_asSort 40 = .ok (.lreturn, 1) := o_173 (bg_dX3_asSort_36 4 173 rfl)
theorem dX3_asSort_41 : decode cX3_asSort 41 = .ok (.lload_n 1, 1) := o_31 (bg_dX3_asSort_36 5 31 rfl)
theorem dX3_asSort_42 : decode cX3_asSort 42 = .ok (.l2i, 1) := o_136 (bg_dX3_asSort_36 6 136 rfl)
theorem dX3_asSort_43 : decode cX3_asSort 43 = .ok (.i2s, 1) := o_147 (bg_dX3_asSort_36 7 147 rfl)
theorem dX3_asSort_44 : decode cX3_asSort 44 = .ok (.i2l, 1) := o_133 (bg_dX3_asSort_36 8 133 rfl)
theorem dX3_asSort_45 : decode cX3_asSort 45 = .ok (.lreturn, 1) := o_173 (bg_dX3_asSort_36 9 173 rfl)
theorem dX3_asSort_46 : decode cX3_asSort 46 = .ok (.lload_n 1, 1) := o_31 (bg_dX3_asSort_36 10 31 rfl)
theorem dX3_asSort_47 : decode cX3_asSort 47 = .ok (.l2i, 1) := o_136 (bg_dX3_asSort_36 11 136 rfl)
theorem dX3_asSort_48 : decode cX3_asSort 48 = .ok (.i2l, 1) := o_133 (bg_dX3_asSort_36 12 133 rfl)
theorem dX3_asSort_49 : decode cX3_asSort 49 = .ok (.lreturn, 1) := o_173 (bg_dX3_asSort_36 13 173 rfl)
theorem bg_dX3_asSort_50 : bysAt cX3_asSort 50 [31, 9, 148, 153, 0, 7, 10, 167, 0, 4, 9, 173, 31, 173] := bysAt_of (by decide +kernel)
theorem dX3_asSort_50 : decode cX3_asSort 50 = .ok (.lload_n 1, 1) := o_31 (bg_dX3_asSort_50 0 31 rfl)
theorem dX3_asSort_51 : decode cX3_asSort 51 = .ok (.lconst 0, 1) := o_9 (bg_dX3_asSort_50 1 9 rfl)
theorem dX3_asSort_52 : decode cX3_asSort 52 = .ok (.lcmp, 1) := o_148 (bg_dX3_asSort_50 2 148 rfl)
theorem dX3_asSort_53 : decode cX3_asSort 53 = .ok (.ifCond .eq 7, 3) := o_153 (bg_dX3_asSort_50 3 153 rfl) (bg_dX3_asSort_50 4 0 rfl) (bg_dX3_asSort_50 5 7 rfl) (by decide +kernel)
theorem dX3_asSort_56 : decode cX3_asSort 56 = .ok (.lconst 1, 1) := o_10 (bg_dX3_asSort_50 6 10 rfl)
theorem dX3_asSort_57 : decode cX3_asSort 57 = .ok (.goto 4, 3) := o_167 (bg_dX3_asSort_50 7 167 rfl) (bg_dX3_asSort_50 8 0 rfl) (bg_dX3_asSort_50 9 4 rfl) (by decide +kernel)
theorem dX3_asSort_60 : decode cX3_asSort 60 = .ok (.lconst 0, 1) := o_9 (bg_dX3_asSort_50 10 9 rfl)
theorem dX3_asSort_61 : decode cX3_asSort 61 = .ok (.lreturn, 1) := o_173 (bg_dX3_asSort_50 11 173 rfl)
theorem dX3_asSort_62 : decode cX3_asSort 62 = .ok (.lload_n 1, 1) := o_31 (bg_dX3_asSort_50 12 31 rfl)
theorem dX3_asSort_63 : decode cX3_asSort 63 = .ok (.lreturn, 1) := o_173 (bg_dX3_asSort_50 13 173 rfl)
theorem bg_dX3_countHeld_0 : bysAt cX3_countHeld 0 [3, 60, 3, 61, 28, 16, 8, 162, 0, 20, 42, 28, 182, 0, 22, 154, 0, 6, 132, 1, 1, 132, 2, 1, 167, 255, 236, 27, 172] := bysAt_of (by decide +kernel)
theorem dX3_countHeld_0 : decode cX3_countHeld 0 = .ok (.iconst 0, 1) := o_3 (bg_dX3_countHeld_0 0 3 rfl)
theorem dX3_countHeld_1 : decode cX3_countHeld 1 = .ok (.istore_n 1, 1) := o_60 (bg_dX3_countHeld_0 1 60 rfl)
theorem dX3_countHeld_2 : decode cX3_countHeld 2 = .ok (.iconst 0, 1) := o_3 (bg_dX3_countHeld_0 2 3 rfl)
theorem dX3_countHeld_3 : decode cX3_countHeld 3 = .ok (.istore_n 2, 1) := o_61 (bg_dX3_countHeld_0 3 61 rfl)
theorem dX3_countHeld_4 : decode cX3_countHeld 4 = .ok (.iload_n 2, 1) := o_28 (bg_dX3_countHeld_0 4 28 rfl)
theorem dX3_countHeld_5 : decode cX3_countHeld 5 = .ok (.bipush 8, 2) := o_16 (bg_dX3_countHeld_0 5 16 rfl) (bg_dX3_countHeld_0 6 8 rfl) (by decide +kernel)
theorem dX3_countHeld_7 : decode cX3_countHeld 7 = .ok (.if_icmp .ge 20, 3) := o_162 (bg_dX3_countHeld_0 7 162 rfl) (bg_dX3_countHeld_0 8 0 rfl) (bg_dX3_countHeld_0 9 20 rfl) (by decide +kernel)
theorem dX3_countHeld_10 : decode cX3_countHeld 10 = .ok (.aload_n 0, 1) := o_42 (bg_dX3_countHeld_0 10 42 rfl)
theorem dX3_countHeld_11 : decode cX3_countHeld 11 = .ok (.iload_n 2, 1) := o_28 (bg_dX3_countHeld_0 11 28 rfl)
theorem dX3_countHeld_12 : decode cX3_countHeld 12 = .ok (.invokevirtual 22, 3) := o_182 (bg_dX3_countHeld_0 12 182 rfl) (bg_dX3_countHeld_0 13 0 rfl) (bg_dX3_countHeld_0 14 22 rfl)
theorem dX3_countHeld_15 : decode cX3_countHeld 15 = .ok (.ifCond .ne 6, 3) := o_154 (bg_dX3_countHeld_0 15 154 rfl) (bg_dX3_countHeld_0 16 0 rfl) (bg_dX3_countHeld_0 17 6 rfl) (by decide +kernel)
theorem dX3_countHeld_24 : decode cX3_countHeld 24 = .ok (.goto (-20), 3) := o_167 (bg_dX3_countHeld_0 24 167 rfl) (bg_dX3_countHeld_0 25 255 rfl) (bg_dX3_countHeld_0 26 236 rfl) (by decide +kernel)
theorem dX3_countHeld_27 : decode cX3_countHeld 27 = .ok (.iload_n 1, 1) := o_27 (bg_dX3_countHeld_0 27 27 rfl)
theorem dX3_countHeld_28 : decode cX3_countHeld 28 = .ok (.ireturn, 1) := o_172 (bg_dX3_countHeld_0 28 172 rfl)
theorem bg_dX3_dropBridgesFrom_0 : bysAt cX3_dropBridgesFrom 0 [3, 61, 28, 16, 8, 162, 0, 28, 42, 180, 0, 9, 28, 46, 16, 10, 27, 96, 161, 0, 9, 42] := bysAt_of (by decide +kernel)
theorem dX3_dropBridgesFrom_0 : decode cX3_dropBridgesFrom 0 = .ok (.iconst 0, 1) := o_3 (bg_dX3_dropBridgesFrom_0 0 3 rfl)
theorem dX3_dropBridgesFrom_1 : decode cX3_dropBridgesFrom 1 = .ok (.istore_n 2, 1) := o_61 (bg_dX3_dropBridgesFrom_0 1 61 rfl)
theorem dX3_dropBridgesFrom_2 : decode cX3_dropBridgesFrom 2 = .ok (.iload_n 2, 1) := o_28 (bg_dX3_dropBridgesFrom_0 2 28 rfl)
theorem dX3_dropBridgesFrom_3 : decode cX3_dropBridgesFrom 3 = .ok (.bipush 8, 2) := o_16 (bg_dX3_dropBridgesFrom_0 3 16 rfl) (bg_dX3_dropBridgesFrom_0 4 8 rfl) (by decide +kernel)
theorem dX3_dropBridgesFrom_5 : decode cX3_dropBridgesFrom 5 = .ok (.if_icmp .ge 28, 3) := o_162 (bg_dX3_dropBridgesFrom_0 5 162 rfl) (bg_dX3_dropBridgesFrom_0 6 0 rfl) (bg_dX3_dropBridgesFrom_0 7 28 rfl) (by decide +kernel)
theorem dX3_dropBridgesFrom_8 : decode cX3_dropBridgesFrom 8 = .ok (.aload_n 0, 1) := o_42 (bg_dX3_dropBridgesFrom_0 8 42 rfl)
theorem dX3_dropBridgesFrom_9 : decode cX3_dropBridgesFrom 9 = .ok (.getfield 9, 3) := o_180 (bg_dX3_dropBridgesFrom_0 9 180 rfl) (bg_dX3_dropBridgesFrom_0 10 0 rfl) (bg_dX3_dropBridgesFrom_0 11 9 rfl)
theorem dX3_dropBridgesFrom_12 : decode cX3_dropBridgesFrom 12 = .ok (.iload_n 2, 1) := o_28 (bg_dX3_dropBridgesFrom_0 12 28 rfl)
theorem dX3_dropBridgesFrom_13 : decode cX3_dropBridgesFrom 13 = .ok (.iaload, 1) := o_46 (bg_dX3_dropBridgesFrom_0 13 46 rfl)
theorem dX3_dropBridgesFrom_14 : decode cX3_dropBridgesFrom 14 = .ok (.bipush 10, 2) := o_16 (bg_dX3_dropBridgesFrom_0 14 16 rfl) (bg_dX3_dropBridgesFrom_0 15 10 rfl) (by decide +kernel)
theorem dX3_dropBridgesFrom_16 : decode cX3_dropBridgesFrom 16 = .ok (.iload_n 1, 1) := o_27 (bg_dX3_dropBridgesFrom_0 16 27 rfl)
theorem dX3_dropBridgesFrom_17 : decode cX3_dropBridgesFrom 17 = .ok (.iadd, 1) := o_96 (bg_dX3_dropBridgesFrom_0 17 96 rfl)
theorem dX3_dropBridgesFrom_18 : decode cX3_dropBridgesFrom 18 = .ok (.if_icmp .lt 9, 3) := o_161 (bg_dX3_dropBridgesFrom_0 18 161 rfl) (bg_dX3_dropBridgesFrom_0 19 0 rfl) (bg_dX3_dropBridgesFrom_0 20 9 rfl) (by decide +kernel)
theorem dX3_dropBridgesFrom_21 : decode cX3_dropBridgesFrom 21 = .ok (.aload_n 0, 1) := o_42 (bg_dX3_dropBridgesFrom_0 21 42 rfl)
theorem bg_dX3_dropBridgesFrom_22 : bysAt cX3_dropBridgesFrom 22 [28, 2, 182, 0, 32, 132, 2, 1, 167, 255, 228, 177] := bysAt_of (by decide +kernel)
theorem dX3_dropBridgesFrom_22 : decode cX3_dropBridgesFrom 22 = .ok (.iload_n 2, 1) := o_28 (bg_dX3_dropBridgesFrom_22 0 28 rfl)
theorem dX3_dropBridgesFrom_23 : decode cX3_dropBridgesFrom 23 = .ok (.iconst (-1), 1) := o_2 (bg_dX3_dropBridgesFrom_22 1 2 rfl)
theorem dX3_dropBridgesFrom_24 : decode cX3_dropBridgesFrom 24 = .ok (.invokevirtual 32, 3) := o_182 (bg_dX3_dropBridgesFrom_22 2 182 rfl) (bg_dX3_dropBridgesFrom_22 3 0 rfl) (bg_dX3_dropBridgesFrom_22 4 32 rfl)
theorem dX3_dropBridgesFrom_30 : decode cX3_dropBridgesFrom 30 = .ok (.goto (-28), 3) := o_167 (bg_dX3_dropBridgesFrom_22 8 167 rfl) (bg_dX3_dropBridgesFrom_22 9 255 rfl) (bg_dX3_dropBridgesFrom_22 10 228 rfl) (by decide +kernel)
theorem dX3_dropBridgesFrom_33 : decode cX3_dropBridgesFrom 33 = .ok (.return_, 1) := o_177 (bg_dX3_dropBridgesFrom_22 11 177 rfl)
theorem bg_dX3_elementAt_0 : bysAt cX3_elementAt 0 [28, 3, 42, 180, 0, 15, 27, 46, 4, 100, 184, 0, 36, 153, 0, 17, 42, 180, 0, 18, 27, 16, 40] := bysAt_of (by decide +kernel)
theorem dX3_elementAt_0 : decode cX3_elementAt 0 = .ok (.iload_n 2, 1) := o_28 (bg_dX3_elementAt_0 0 28 rfl)
theorem dX3_elementAt_1 : decode cX3_elementAt 1 = .ok (.iconst 0, 1) := o_3 (bg_dX3_elementAt_0 1 3 rfl)
theorem dX3_elementAt_2 : decode cX3_elementAt 2 = .ok (.aload_n 0, 1) := o_42 (bg_dX3_elementAt_0 2 42 rfl)
theorem dX3_elementAt_3 : decode cX3_elementAt 3 = .ok (.getfield 15, 3) := o_180 (bg_dX3_elementAt_0 3 180 rfl) (bg_dX3_elementAt_0 4 0 rfl) (bg_dX3_elementAt_0 5 15 rfl)
theorem dX3_elementAt_6 : decode cX3_elementAt 6 = .ok (.iload_n 1, 1) := o_27 (bg_dX3_elementAt_0 6 27 rfl)
theorem dX3_elementAt_7 : decode cX3_elementAt 7 = .ok (.iaload, 1) := o_46 (bg_dX3_elementAt_0 7 46 rfl)
theorem dX3_elementAt_8 : decode cX3_elementAt 8 = .ok (.iconst 1, 1) := o_4 (bg_dX3_elementAt_0 8 4 rfl)
theorem dX3_elementAt_9 : decode cX3_elementAt 9 = .ok (.isub, 1) := o_100 (bg_dX3_elementAt_0 9 100 rfl)
theorem dX3_elementAt_10 : decode cX3_elementAt 10 = .ok (.invokestatic 36, 3) := o_184 (bg_dX3_elementAt_0 10 184 rfl) (bg_dX3_elementAt_0 11 0 rfl) (bg_dX3_elementAt_0 12 36 rfl)
theorem dX3_elementAt_13 : decode cX3_elementAt 13 = .ok (.ifCond .eq 17, 3) := o_153 (bg_dX3_elementAt_0 13 153 rfl) (bg_dX3_elementAt_0 14 0 rfl) (bg_dX3_elementAt_0 15 17 rfl) (by decide +kernel)
theorem dX3_elementAt_16 : decode cX3_elementAt 16 = .ok (.aload_n 0, 1) := o_42 (bg_dX3_elementAt_0 16 42 rfl)
theorem dX3_elementAt_17 : decode cX3_elementAt 17 = .ok (.getfield 18, 3) := o_180 (bg_dX3_elementAt_0 17 180 rfl) (bg_dX3_elementAt_0 18 0 rfl) (bg_dX3_elementAt_0 19 18 rfl)
theorem dX3_elementAt_20 : decode cX3_elementAt 20 = .ok (.iload_n 1, 1) := o_27 (bg_dX3_elementAt_0 20 27 rfl)
theorem dX3_elementAt_21 : decode cX3_elementAt 21 = .ok (.bipush 40, 2) := o_16 (bg_dX3_elementAt_0 21 16 rfl) (bg_dX3_elementAt_0 22 40 rfl) (by decide +kernel)
theorem bg_dX3_elementAt_23 : bysAt cX3_elementAt 23 [104, 28, 96, 47, 167, 0, 4, 9, 173] := bysAt_of (by decide +kernel)
theorem dX3_elementAt_23 : decode cX3_elementAt 23 = .ok (.imul, 1) := o_104 (bg_dX3_elementAt_23 0 104 rfl)
theorem dX3_elementAt_24 : decode cX3_elementAt 24 = .ok (.iload_n 2, 1) := o_28 (bg_dX3_elementAt_23 1 28 rfl)
theorem dX3_elementAt_25 : decode cX3_elementAt 25 = .ok (.iadd, 1) := o_96 (bg_dX3_elementAt_23 2 96 rfl)
theorem dX3_elementAt_26 : decode cX3_elementAt 26 = .ok (.laload, 1) := o_47 (bg_dX3_elementAt_23 3 47 rfl)
theorem dX3_elementAt_27 : decode cX3_elementAt 27 = .ok (.goto 4, 3) := o_167 (bg_dX3_elementAt_23 4 167 rfl) (bg_dX3_elementAt_23 5 0 rfl) (bg_dX3_elementAt_23 6 4 rfl) (by decide +kernel)
theorem dX3_elementAt_30 : decode cX3_elementAt 30 = .ok (.lconst 0, 1) := o_9 (bg_dX3_elementAt_23 7 9 rfl)
theorem dX3_elementAt_31 : decode cX3_elementAt 31 = .ok (.lreturn, 1) := o_173 (bg_dX3_elementAt_23 8 173 rfl)
theorem bg_dX3_holdsBridge_0 : bysAt cX3_holdsBridge 0 [42, 180, 0, 9, 27, 46, 16, 10, 161, 0, 7, 4, 167, 0, 4, 3, 172] := bysAt_of (by decide +kernel)
theorem dX3_holdsBridge_0 : decode cX3_holdsBridge 0 = .ok (.aload_n 0, 1) := o_42 (bg_dX3_holdsBridge_0 0 42 rfl)
theorem dX3_holdsBridge_1 : decode cX3_holdsBridge 1 = .ok (.getfield 9, 3) := o_180 (bg_dX3_holdsBridge_0 1 180 rfl) (bg_dX3_holdsBridge_0 2 0 rfl) (bg_dX3_holdsBridge_0 3 9 rfl)
theorem dX3_holdsBridge_4 : decode cX3_holdsBridge 4 = .ok (.iload_n 1, 1) := o_27 (bg_dX3_holdsBridge_0 4 27 rfl)
theorem dX3_holdsBridge_5 : decode cX3_holdsBridge 5 = .ok (.iaload, 1) := o_46 (bg_dX3_holdsBridge_0 5 46 rfl)
theorem dX3_holdsBridge_6 : decode cX3_holdsBridge 6 = .ok (.bipush 10, 2) := o_16 (bg_dX3_holdsBridge_0 6 16 rfl) (bg_dX3_holdsBridge_0 7 10 rfl) (by decide +kernel)
theorem dX3_holdsBridge_8 : decode cX3_holdsBridge 8 = .ok (.if_icmp .lt 7, 3) := o_161 (bg_dX3_holdsBridge_0 8 161 rfl) (bg_dX3_holdsBridge_0 9 0 rfl) (bg_dX3_holdsBridge_0 10 7 rfl) (by decide +kernel)
theorem dX3_holdsBridge_11 : decode cX3_holdsBridge 11 = .ok (.iconst 1, 1) := o_4 (bg_dX3_holdsBridge_0 11 4 rfl)
theorem dX3_holdsBridge_12 : decode cX3_holdsBridge 12 = .ok (.goto 4, 3) := o_167 (bg_dX3_holdsBridge_0 12 167 rfl) (bg_dX3_holdsBridge_0 13 0 rfl) (bg_dX3_holdsBridge_0 14 4 rfl) (by decide +kernel)
theorem dX3_holdsBridge_15 : decode cX3_holdsBridge 15 = .ok (.iconst 0, 1) := o_3 (bg_dX3_holdsBridge_0 15 3 rfl)
theorem dX3_holdsBridge_16 : decode cX3_holdsBridge 16 = .ok (.ireturn, 1) := o_172 (bg_dX3_holdsBridge_0 16 172 rfl)
theorem bg_dX3_holdsNothing_0 : bysAt cX3_holdsNothing 0 [42, 180, 0, 9, 27, 46, 2, 160, 0, 7, 4, 167, 0, 4, 3, 172] := bysAt_of (by decide +kernel)
theorem dX3_holdsNothing_0 : decode cX3_holdsNothing 0 = .ok (.aload_n 0, 1) := o_42 (bg_dX3_holdsNothing_0 0 42 rfl)
theorem dX3_holdsNothing_1 : decode cX3_holdsNothing 1 = .ok (.getfield 9, 3) := o_180 (bg_dX3_holdsNothing_0 1 180 rfl) (bg_dX3_holdsNothing_0 2 0 rfl) (bg_dX3_holdsNothing_0 3 9 rfl)
theorem dX3_holdsNothing_4 : decode cX3_holdsNothing 4 = .ok (.iload_n 1, 1) := o_27 (bg_dX3_holdsNothing_0 4 27 rfl)
theorem dX3_holdsNothing_5 : decode cX3_holdsNothing 5 = .ok (.iaload, 1) := o_46 (bg_dX3_holdsNothing_0 5 46 rfl)
theorem dX3_holdsNothing_6 : decode cX3_holdsNothing 6 = .ok (.iconst (-1), 1) := o_2 (bg_dX3_holdsNothing_0 6 2 rfl)
theorem dX3_holdsNothing_7 : decode cX3_holdsNothing 7 = .ok (.if_icmp .ne 7, 3) := o_160 (bg_dX3_holdsNothing_0 7 160 rfl) (bg_dX3_holdsNothing_0 8 0 rfl) (bg_dX3_holdsNothing_0 9 7 rfl) (by decide +kernel)
theorem dX3_holdsNothing_10 : decode cX3_holdsNothing 10 = .ok (.iconst 1, 1) := o_4 (bg_dX3_holdsNothing_0 10 4 rfl)
theorem dX3_holdsNothing_11 : decode cX3_holdsNothing 11 = .ok (.goto 4, 3) := o_167 (bg_dX3_holdsNothing_0 11 167 rfl) (bg_dX3_holdsNothing_0 12 0 rfl) (bg_dX3_holdsNothing_0 13 4 rfl) (by decide +kernel)
theorem dX3_holdsNothing_14 : decode cX3_holdsNothing 14 = .ok (.iconst 0, 1) := o_3 (bg_dX3_holdsNothing_0 14 3 rfl)
theorem dX3_holdsNothing_15 : decode cX3_holdsNothing 15 = .ok (.ireturn, 1) := o_172 (bg_dX3_holdsNothing_0 15 172 rfl)
theorem bg_dX3_holdsRow_0 : bysAt cX3_holdsRow 0 [42, 27, 182, 0, 22, 154, 0, 15, 42, 27, 182, 0, 26, 154, 0, 7, 4, 167, 0, 4, 3, 172] := bysAt_of (by decide +kernel)
theorem dX3_holdsRow_0 : decode cX3_holdsRow 0 = .ok (.aload_n 0, 1) := o_42 (bg_dX3_holdsRow_0 0 42 rfl)
theorem dX3_holdsRow_1 : decode cX3_holdsRow 1 = .ok (.iload_n 1, 1) := o_27 (bg_dX3_holdsRow_0 1 27 rfl)
theorem dX3_holdsRow_2 : decode cX3_holdsRow 2 = .ok (.invokevirtual 22, 3) := o_182 (bg_dX3_holdsRow_0 2 182 rfl) (bg_dX3_holdsRow_0 3 0 rfl) (bg_dX3_holdsRow_0 4 22 rfl)
theorem dX3_holdsRow_5 : decode cX3_holdsRow 5 = .ok (.ifCond .ne 15, 3) := o_154 (bg_dX3_holdsRow_0 5 154 rfl) (bg_dX3_holdsRow_0 6 0 rfl) (bg_dX3_holdsRow_0 7 15 rfl) (by decide +kernel)
theorem dX3_holdsRow_8 : decode cX3_holdsRow 8 = .ok (.aload_n 0, 1) := o_42 (bg_dX3_holdsRow_0 8 42 rfl)
theorem dX3_holdsRow_9 : decode cX3_holdsRow 9 = .ok (.iload_n 1, 1) := o_27 (bg_dX3_holdsRow_0 9 27 rfl)
theorem dX3_holdsRow_10 : decode cX3_holdsRow 10 = .ok (.invokevirtual 26, 3) := o_182 (bg_dX3_holdsRow_0 10 182 rfl) (bg_dX3_holdsRow_0 11 0 rfl) (bg_dX3_holdsRow_0 12 26 rfl)
theorem dX3_holdsRow_13 : decode cX3_holdsRow 13 = .ok (.ifCond .ne 7, 3) := o_154 (bg_dX3_holdsRow_0 13 154 rfl) (bg_dX3_holdsRow_0 14 0 rfl) (bg_dX3_holdsRow_0 15 7 rfl) (by decide +kernel)
theorem dX3_holdsRow_16 : decode cX3_holdsRow 16 = .ok (.iconst 1, 1) := o_4 (bg_dX3_holdsRow_0 16 4 rfl)
theorem dX3_holdsRow_17 : decode cX3_holdsRow 17 = .ok (.goto 4, 3) := o_167 (bg_dX3_holdsRow_0 17 167 rfl) (bg_dX3_holdsRow_0 18 0 rfl) (bg_dX3_holdsRow_0 19 4 rfl) (by decide +kernel)
theorem dX3_holdsRow_20 : decode cX3_holdsRow 20 = .ok (.iconst 0, 1) := o_3 (bg_dX3_holdsRow_0 20 3 rfl)
theorem dX3_holdsRow_21 : decode cX3_holdsRow 21 = .ok (.ireturn, 1) := o_172 (bg_dX3_holdsRow_0 21 172 rfl)
theorem bg_dX3_holdsUnlikeRows_0 : bysAt cX3_holdsUnlikeRows 0 [42, 27, 182, 0, 29, 153, 0, 30, 42, 28, 182, 0, 29, 153, 0, 22, 42, 180, 0, 9, 27, 46, 42, 180, 0, 9] := bysAt_of (by decide +kernel)
theorem dX3_holdsUnlikeRows_0 : decode cX3_holdsUnlikeRows 0 = .ok (.aload_n 0, 1) := o_42 (bg_dX3_holdsUnlikeRows_0 0 42 rfl)
theorem dX3_holdsUnlikeRows_1 : decode cX3_holdsUnlikeRows 1 = .ok (.iload_n 1, 1) := o_27 (bg_dX3_holdsUnlikeRows_0 1 27 rfl)
theorem dX3_holdsUnlikeRows_2 : decode cX3_holdsUnlikeRows 2 = .ok (.invokevirtual 29, 3) := o_182 (bg_dX3_holdsUnlikeRows_0 2 182 rfl) (bg_dX3_holdsUnlikeRows_0 3 0 rfl) (bg_dX3_holdsUnlikeRows_0 4 29 rfl)
theorem dX3_holdsUnlikeRows_5 : decode cX3_holdsUnlikeRows 5 = .ok (.ifCond .eq 30, 3) := o_153 (bg_dX3_holdsUnlikeRows_0 5 153 rfl) (bg_dX3_holdsUnlikeRows_0 6 0 rfl) (bg_dX3_holdsUnlikeRows_0 7 30 rfl) (by decide +kernel)
theorem dX3_holdsUnlikeRows_8 : decode cX3_holdsUnlikeRows 8 = .ok (.aload_n 0, 1) := o_42 (bg_dX3_holdsUnlikeRows_0 8 42 rfl)
theorem dX3_holdsUnlikeRows_9 : decode cX3_holdsUnlikeRows 9 = .ok (.iload_n 2, 1) := o_28 (bg_dX3_holdsUnlikeRows_0 9 28 rfl)
theorem dX3_holdsUnlikeRows_10 : decode cX3_holdsUnlikeRows 10 = .ok (.invokevirtual 29, 3) := o_182 (bg_dX3_holdsUnlikeRows_0 10 182 rfl) (bg_dX3_holdsUnlikeRows_0 11 0 rfl) (bg_dX3_holdsUnlikeRows_0 12 29 rfl)
theorem dX3_holdsUnlikeRows_13 : decode cX3_holdsUnlikeRows 13 = .ok (.ifCond .eq 22, 3) := o_153 (bg_dX3_holdsUnlikeRows_0 13 153 rfl) (bg_dX3_holdsUnlikeRows_0 14 0 rfl) (bg_dX3_holdsUnlikeRows_0 15 22 rfl) (by decide +kernel)
theorem dX3_holdsUnlikeRows_16 : decode cX3_holdsUnlikeRows 16 = .ok (.aload_n 0, 1) := o_42 (bg_dX3_holdsUnlikeRows_0 16 42 rfl)
theorem dX3_holdsUnlikeRows_17 : decode cX3_holdsUnlikeRows 17 = .ok (.getfield 9, 3) := o_180 (bg_dX3_holdsUnlikeRows_0 17 180 rfl) (bg_dX3_holdsUnlikeRows_0 18 0 rfl) (bg_dX3_holdsUnlikeRows_0 19 9 rfl)
theorem dX3_holdsUnlikeRows_20 : decode cX3_holdsUnlikeRows 20 = .ok (.iload_n 1, 1) := o_27 (bg_dX3_holdsUnlikeRows_0 20 27 rfl)
theorem dX3_holdsUnlikeRows_21 : decode cX3_holdsUnlikeRows 21 = .ok (.iaload, 1) := o_46 (bg_dX3_holdsUnlikeRows_0 21 46 rfl)
theorem dX3_holdsUnlikeRows_22 : decode cX3_holdsUnlikeRows 22 = .ok (.aload_n 0, 1) := o_42 (bg_dX3_holdsUnlikeRows_0 22 42 rfl)
theorem dX3_holdsUnlikeRows_23 : decode cX3_holdsUnlikeRows 23 = .ok (.getfield 9, 3) := o_180 (bg_dX3_holdsUnlikeRows_0 23 180 rfl) (bg_dX3_holdsUnlikeRows_0 24 0 rfl) (bg_dX3_holdsUnlikeRows_0 25 9 rfl)
theorem bg_dX3_holdsUnlikeRows_26 : bysAt cX3_holdsUnlikeRows 26 [28, 46, 159, 0, 7, 4, 167, 0, 4, 3, 172] := bysAt_of (by decide +kernel)
theorem dX3_holdsUnlikeRows_26 : decode cX3_holdsUnlikeRows 26 = .ok (.iload_n 2, 1) := o_28 (bg_dX3_holdsUnlikeRows_26 0 28 rfl)
theorem dX3_holdsUnlikeRows_27 : decode cX3_holdsUnlikeRows 27 = .ok (.iaload, 1) := o_46 (bg_dX3_holdsUnlikeRows_26 1 46 rfl)
theorem dX3_holdsUnlikeRows_28 : decode cX3_holdsUnlikeRows 28 = .ok (.if_icmp .eq 7, 3) := o_159 (bg_dX3_holdsUnlikeRows_26 2 159 rfl) (bg_dX3_holdsUnlikeRows_26 3 0 rfl) (bg_dX3_holdsUnlikeRows_26 4 7 rfl) (by decide +kernel)
theorem dX3_holdsUnlikeRows_31 : decode cX3_holdsUnlikeRows 31 = .ok (.iconst 1, 1) := o_4 (bg_dX3_holdsUnlikeRows_26 5 4 rfl)
theorem dX3_holdsUnlikeRows_32 : decode cX3_holdsUnlikeRows 32 = .ok (.goto 4, 3) := o_167 (bg_dX3_holdsUnlikeRows_26 6 167 rfl) (bg_dX3_holdsUnlikeRows_26 7 0 rfl) (bg_dX3_holdsUnlikeRows_26 8 4 rfl) (by decide +kernel)
theorem dX3_holdsUnlikeRows_35 : decode cX3_holdsUnlikeRows 35 = .ok (.iconst 0, 1) := o_3 (bg_dX3_holdsUnlikeRows_26 9 3 rfl)
theorem dX3_holdsUnlikeRows_36 : decode cX3_holdsUnlikeRows 36 = .ok (.ireturn, 1) := o_172 (bg_dX3_holdsUnlikeRows_26 10 172 rfl)
theorem bg_dX3_putBridge_0 : bysAt cX3_putBridge 0 [42, 180, 0, 9, 27, 28, 2, 160, 0, 7, 2, 167, 0, 7, 16, 10, 28, 96, 79, 42, 180, 0, 15] := bysAt_of (by decide +kernel)
theorem dX3_putBridge_0 : decode cX3_putBridge 0 = .ok (.aload_n 0, 1) := o_42 (bg_dX3_putBridge_0 0 42 rfl)
theorem dX3_putBridge_1 : decode cX3_putBridge 1 = .ok (.getfield 9, 3) := o_180 (bg_dX3_putBridge_0 1 180 rfl) (bg_dX3_putBridge_0 2 0 rfl) (bg_dX3_putBridge_0 3 9 rfl)
theorem dX3_putBridge_4 : decode cX3_putBridge 4 = .ok (.iload_n 1, 1) := o_27 (bg_dX3_putBridge_0 4 27 rfl)
theorem dX3_putBridge_5 : decode cX3_putBridge 5 = .ok (.iload_n 2, 1) := o_28 (bg_dX3_putBridge_0 5 28 rfl)
theorem dX3_putBridge_6 : decode cX3_putBridge 6 = .ok (.iconst (-1), 1) := o_2 (bg_dX3_putBridge_0 6 2 rfl)
theorem dX3_putBridge_7 : decode cX3_putBridge 7 = .ok (.if_icmp .ne 7, 3) := o_160 (bg_dX3_putBridge_0 7 160 rfl) (bg_dX3_putBridge_0 8 0 rfl) (bg_dX3_putBridge_0 9 7 rfl) (by decide +kernel)
theorem dX3_putBridge_10 : decode cX3_putBridge 10 = .ok (.iconst (-1), 1) := o_2 (bg_dX3_putBridge_0 10 2 rfl)
theorem dX3_putBridge_11 : decode cX3_putBridge 11 = .ok (.goto 7, 3) := o_167 (bg_dX3_putBridge_0 11 167 rfl) (bg_dX3_putBridge_0 12 0 rfl) (bg_dX3_putBridge_0 13 7 rfl) (by decide +kernel)
theorem dX3_putBridge_14 : decode cX3_putBridge 14 = .ok (.bipush 10, 2) := o_16 (bg_dX3_putBridge_0 14 16 rfl) (bg_dX3_putBridge_0 15 10 rfl) (by decide +kernel)
theorem dX3_putBridge_16 : decode cX3_putBridge 16 = .ok (.iload_n 2, 1) := o_28 (bg_dX3_putBridge_0 16 28 rfl)
theorem dX3_putBridge_17 : decode cX3_putBridge 17 = .ok (.iadd, 1) := o_96 (bg_dX3_putBridge_0 17 96 rfl)
theorem dX3_putBridge_18 : decode cX3_putBridge 18 = .ok (.iastore, 1) := o_79 (bg_dX3_putBridge_0 18 79 rfl)
theorem dX3_putBridge_19 : decode cX3_putBridge 19 = .ok (.aload_n 0, 1) := o_42 (bg_dX3_putBridge_0 19 42 rfl)
theorem dX3_putBridge_20 : decode cX3_putBridge 20 = .ok (.getfield 15, 3) := o_180 (bg_dX3_putBridge_0 20 180 rfl) (bg_dX3_putBridge_0 21 0 rfl) (bg_dX3_putBridge_0 22 15 rfl)
theorem bg_dX3_putBridge_23 : bysAt cX3_putBridge 23 [27, 3, 79, 177] := bysAt_of (by decide +kernel)
theorem dX3_putBridge_23 : decode cX3_putBridge 23 = .ok (.iload_n 1, 1) := o_27 (bg_dX3_putBridge_23 0 27 rfl)
theorem dX3_putBridge_24 : decode cX3_putBridge 24 = .ok (.iconst 0, 1) := o_3 (bg_dX3_putBridge_23 1 3 rfl)
theorem dX3_putBridge_25 : decode cX3_putBridge 25 = .ok (.iastore, 1) := o_79 (bg_dX3_putBridge_23 2 79 rfl)
theorem dX3_putBridge_26 : decode cX3_putBridge 26 = .ok (.return_, 1) := o_177 (bg_dX3_putBridge_23 3 177 rfl)
theorem bg_dX3_putElement_0 : bysAt cX3_putElement 0 [42, 180, 0, 18, 27, 16, 40, 104, 28, 96, 42, 180, 0, 9, 27, 46, 33, 184, 0, 40, 80] := bysAt_of (by decide +kernel)
theorem dX3_putElement_0 : decode cX3_putElement 0 = .ok (.aload_n 0, 1) := o_42 (bg_dX3_putElement_0 0 42 rfl)
theorem dX3_putElement_1 : decode cX3_putElement 1 = .ok (.getfield 18, 3) := o_180 (bg_dX3_putElement_0 1 180 rfl) (bg_dX3_putElement_0 2 0 rfl) (bg_dX3_putElement_0 3 18 rfl)
theorem dX3_putElement_4 : decode cX3_putElement 4 = .ok (.iload_n 1, 1) := o_27 (bg_dX3_putElement_0 4 27 rfl)
theorem dX3_putElement_5 : decode cX3_putElement 5 = .ok (.bipush 40, 2) := o_16 (bg_dX3_putElement_0 5 16 rfl) (bg_dX3_putElement_0 6 40 rfl) (by decide +kernel)
theorem dX3_putElement_7 : decode cX3_putElement 7 = .ok (.imul, 1) := o_104 (bg_dX3_putElement_0 7 104 rfl)
theorem dX3_putElement_8 : decode cX3_putElement 8 = .ok (.iload_n 2, 1) := o_28 (bg_dX3_putElement_0 8 28 rfl)
theorem dX3_putElement_9 : decode cX3_putElement 9 = .ok (.iadd, 1) := o_96 (bg_dX3_putElement_0 9 96 rfl)
theorem dX3_putElement_10 : decode cX3_putElement 10 = .ok (.aload_n 0, 1) := o_42 (bg_dX3_putElement_0 10 42 rfl)
theorem dX3_putElement_11 : decode cX3_putElement 11 = .ok (.getfield 9, 3) := o_180 (bg_dX3_putElement_0 11 180 rfl) (bg_dX3_putElement_0 12 0 rfl) (bg_dX3_putElement_0 13 9 rfl)
theorem dX3_putElement_14 : decode cX3_putElement 14 = .ok (.iload_n 1, 1) := o_27 (bg_dX3_putElement_0 14 27 rfl)
theorem dX3_putElement_15 : decode cX3_putElement 15 = .ok (.iaload, 1) := o_46 (bg_dX3_putElement_0 15 46 rfl)
theorem dX3_putElement_16 : decode cX3_putElement 16 = .ok (.lload_n 3, 1) := o_33 (bg_dX3_putElement_0 16 33 rfl)
theorem dX3_putElement_17 : decode cX3_putElement 17 = .ok (.invokestatic 40, 3) := o_184 (bg_dX3_putElement_0 17 184 rfl) (bg_dX3_putElement_0 18 0 rfl) (bg_dX3_putElement_0 19 40 rfl)
theorem dX3_putElement_20 : decode cX3_putElement 20 = .ok (.lastore, 1) := o_80 (bg_dX3_putElement_0 20 80 rfl)
theorem bg_dX3_putElement_21 : bysAt cX3_putElement 21 [177] := bysAt_of (by decide +kernel)
theorem dX3_putElement_21 : decode cX3_putElement 21 = .ok (.return_, 1) := o_177 (bg_dX3_putElement_21 0 177 rfl)
theorem bg_dX3_putRow_0 : bysAt cX3_putRow 0 [42, 180, 0, 9, 27, 28, 79, 42, 180, 0, 15, 27, 29, 79, 3, 54, 4, 21, 4, 29] := bysAt_of (by decide +kernel)
theorem dX3_putRow_0 : decode cX3_putRow 0 = .ok (.aload_n 0, 1) := o_42 (bg_dX3_putRow_0 0 42 rfl)
theorem dX3_putRow_1 : decode cX3_putRow 1 = .ok (.getfield 9, 3) := o_180 (bg_dX3_putRow_0 1 180 rfl) (bg_dX3_putRow_0 2 0 rfl) (bg_dX3_putRow_0 3 9 rfl)
theorem dX3_putRow_4 : decode cX3_putRow 4 = .ok (.iload_n 1, 1) := o_27 (bg_dX3_putRow_0 4 27 rfl)
theorem dX3_putRow_5 : decode cX3_putRow 5 = .ok (.iload_n 2, 1) := o_28 (bg_dX3_putRow_0 5 28 rfl)
theorem dX3_putRow_6 : decode cX3_putRow 6 = .ok (.iastore, 1) := o_79 (bg_dX3_putRow_0 6 79 rfl)
theorem dX3_putRow_7 : decode cX3_putRow 7 = .ok (.aload_n 0, 1) := o_42 (bg_dX3_putRow_0 7 42 rfl)
theorem dX3_putRow_8 : decode cX3_putRow 8 = .ok (.getfield 15, 3) := o_180 (bg_dX3_putRow_0 8 180 rfl) (bg_dX3_putRow_0 9 0 rfl) (bg_dX3_putRow_0 10 15 rfl)
theorem dX3_putRow_11 : decode cX3_putRow 11 = .ok (.iload_n 1, 1) := o_27 (bg_dX3_putRow_0 11 27 rfl)
theorem dX3_putRow_12 : decode cX3_putRow 12 = .ok (.iload_n 3, 1) := o_29 (bg_dX3_putRow_0 12 29 rfl)
theorem dX3_putRow_13 : decode cX3_putRow 13 = .ok (.iastore, 1) := o_79 (bg_dX3_putRow_0 13 79 rfl)
theorem dX3_putRow_14 : decode cX3_putRow 14 = .ok (.iconst 0, 1) := o_3 (bg_dX3_putRow_0 14 3 rfl)
theorem dX3_putRow_15 : decode cX3_putRow 15 = .ok (.istore 4, 2) := o_54 (bg_dX3_putRow_0 15 54 rfl) (bg_dX3_putRow_0 16 4 rfl)
theorem dX3_putRow_17 : decode cX3_putRow 17 = .ok (.iload 4, 2) := o_21 (bg_dX3_putRow_0 17 21 rfl) (bg_dX3_putRow_0 18 4 rfl)
theorem dX3_putRow_19 : decode cX3_putRow 19 = .ok (.iload_n 3, 1) := o_29 (bg_dX3_putRow_0 19 29 rfl)
theorem bg_dX3_putRow_20 : bysAt cX3_putRow 20 [162, 0, 22, 42, 180, 0, 18, 27, 16, 40, 104, 21, 4, 96, 9, 80, 132, 4, 1, 167, 255, 234, 177] := bysAt_of (by decide +kernel)
theorem dX3_putRow_20 : decode cX3_putRow 20 = .ok (.if_icmp .ge 22, 3) := o_162 (bg_dX3_putRow_20 0 162 rfl) (bg_dX3_putRow_20 1 0 rfl) (bg_dX3_putRow_20 2 22 rfl) (by decide +kernel)
theorem dX3_putRow_23 : decode cX3_putRow 23 = .ok (.aload_n 0, 1) := o_42 (bg_dX3_putRow_20 3 42 rfl)
theorem dX3_putRow_24 : decode cX3_putRow 24 = .ok (.getfield 18, 3) := o_180 (bg_dX3_putRow_20 4 180 rfl) (bg_dX3_putRow_20 5 0 rfl) (bg_dX3_putRow_20 6 18 rfl)
theorem dX3_putRow_27 : decode cX3_putRow 27 = .ok (.iload_n 1, 1) := o_27 (bg_dX3_putRow_20 7 27 rfl)
theorem dX3_putRow_28 : decode cX3_putRow 28 = .ok (.bipush 40, 2) := o_16 (bg_dX3_putRow_20 8 16 rfl) (bg_dX3_putRow_20 9 40 rfl) (by decide +kernel)
theorem dX3_putRow_30 : decode cX3_putRow 30 = .ok (.imul, 1) := o_104 (bg_dX3_putRow_20 10 104 rfl)
theorem dX3_putRow_31 : decode cX3_putRow 31 = .ok (.iload 4, 2) := o_21 (bg_dX3_putRow_20 11 21 rfl) (bg_dX3_putRow_20 12 4 rfl)
theorem dX3_putRow_33 : decode cX3_putRow 33 = .ok (.iadd, 1) := o_96 (bg_dX3_putRow_20 13 96 rfl)
theorem dX3_putRow_34 : decode cX3_putRow 34 = .ok (.lconst 0, 1) := o_9 (bg_dX3_putRow_20 14 9 rfl)
theorem dX3_putRow_35 : decode cX3_putRow 35 = .ok (.lastore, 1) := o_80 (bg_dX3_putRow_20 15 80 rfl)
theorem dX3_putRow_39 : decode cX3_putRow 39 = .ok (.goto (-22), 3) := o_167 (bg_dX3_putRow_20 19 167 rfl) (bg_dX3_putRow_20 20 255 rfl) (bg_dX3_putRow_20 21 234 rfl) (by decide +kernel)
theorem dX3_putRow_42 : decode cX3_putRow 42 = .ok (.return_, 1) := o_177 (bg_dX3_putRow_20 22 177 rfl)
theorem pdX3_asSort : yX3_asSort.cls ≠ "java/lang/invoke/MethodHandle" ∧ yX3_asSort.cls ≠ "java/lang/invoke/VarHandle" ∧ (parseMethodDescriptor yX3_asSort.desc).map (fun d => d.parameters.length) = some 2 := by decide +kernel
theorem pdVX3_holdsBridge : yX3_holdsBridge.cls = RX3 ∧ yX3_holdsBridge.cls ≠ "java/lang/invoke/MethodHandle" ∧ yX3_holdsBridge.cls ≠ "java/lang/invoke/VarHandle" ∧ (parseMethodDescriptor yX3_holdsBridge.desc).map (fun d => d.parameters.length) = some 1 := by decide +kernel
theorem pdVX3_holdsNothing : yX3_holdsNothing.cls = RX3 ∧ yX3_holdsNothing.cls ≠ "java/lang/invoke/MethodHandle" ∧ yX3_holdsNothing.cls ≠ "java/lang/invoke/VarHandle" ∧ (parseMethodDescriptor yX3_holdsNothing.desc).map (fun d => d.parameters.length) = some 1 := by decide +kernel
theorem pdVX3_holdsRow : yX3_holdsRow.cls = RX3 ∧ yX3_holdsRow.cls ≠ "java/lang/invoke/MethodHandle" ∧ yX3_holdsRow.cls ≠ "java/lang/invoke/VarHandle" ∧ (parseMethodDescriptor yX3_holdsRow.desc).map (fun d => d.parameters.length) = some 1 := by decide +kernel
theorem pdVX3_putBridge : yX3_putBridge.cls = RX3 ∧ yX3_putBridge.cls ≠ "java/lang/invoke/MethodHandle" ∧ yX3_putBridge.cls ≠ "java/lang/invoke/VarHandle" ∧ (parseMethodDescriptor yX3_putBridge.desc).map (fun d => d.parameters.length) = some 2 := by decide +kernel
theorem dX3_asSort_1 : decode cX3_asSort 1 = .ok (.tableswitch 61 0 4 #[35, 40, 45, 61, 49], 35) := by decide +kernel
theorem dX3_countHeld_18 : decode cX3_countHeld 18 = .ok (.iinc 1 1, 3) := by decide +kernel
theorem dX3_countHeld_21 : decode cX3_countHeld 21 = .ok (.iinc 2 1, 3) := by decide +kernel
theorem dX3_dropBridgesFrom_27 : decode cX3_dropBridgesFrom 27 = .ok (.iinc 2 1, 3) := by decide +kernel
theorem dX3_putRow_36 : decode cX3_putRow 36 = .ok (.iinc 4 1, 3) := by decide +kernel
set_option maxHeartbeats 4000000 in
set_option maxRecDepth 100000 in
theorem c_X3_holdsNothing (l : Launch) (D : va_G) (E : Nat → ClassId) (G : Nat → Nat) (a : Nat → Nat) (C : Nat → va_E) (hT : TyX a E C) (x1 : Int32) (hx1 : rg x1 0 7) : Met l yX3_holdsNothing (oh_w yX3_holdsNothing cX3_holdsNothing 2 (some .boolean)) ({ frames := 0, cells := 0, slots := 0, locals := 0 }) (oh_Pp D E G [.ref (a 4), .int x1] (oh_W 35 a C)) (vp_Si (fun r => (r = 0 ∨ r = 1))) 0 0 (fun _ => False) := by
  refine Met.ofW (cc := cX3_holdsNothing) (maxL := 2) (ret := (some .boolean)) (by decide) rfl ?_
  intro p e s m args below meth c s₁ B hml hv
  obtain ⟨rfl, hP, hK, hG⟩ := hv
  have hx := B.exec
  have hb := B.bytes
  have hr := B.returns
  have hts := atoms_spec (ws := (oh_w yX3_holdsNothing cX3_holdsNothing 2 (some .boolean))) B.pre
  have htg : ∀ w ∈ oh_t, w.before _ s = true := fun w h => hts w (List.mem_cons_of_mem _ h)
  have hown : s.vm.findClass RX3 = some m.cls := findClass_of_methodNamed B.named
  have hlocks := B.notSynchronized
  have hT0 := hT
  have hS : va_S (fun _ => False) s.heap s.heap [] := va_S.rf
  have hl := lv_entry ([.ref (a 4), .int x1]) (n := 2) (Nat.le_of_ble_eq_true rfl)
  rw [lg_entry_eq]
  generalize (lg_sl ([.ref (a 4), .int x1]) ++ List.replicate (2 - (lg_sl ([.ref (a 4), .int x1])).length) Slot.unset).toArray = ls at hl ⊢
  have hl : lv_has ls 2 [(0, .ref (a 4)), (1, .int x1)] := hl
  refine oh_genQ (fun Q hQ => ?_)
  refine lv_aload_n hx hb dX3_holdsNothing_0 rfl (lv_at hl 0 rfl) ?_
  refine va_get (D := D) (ci := 3) (v := .ref (a 29)) (C := RX3) (T := TX3) (N := 3) hx hb htg ig_3 hown hK hP 4 (oh_wg (by decide) (sX_4 hT)) rfl 0 (by decide) (htg _ q_198) (fun _ h9 => h9) rfl dX3_holdsNothing_1 ?_
  refine lv_iload_n hx hb dX3_holdsNothing_4 rfl (lv_at hl 1 rfl) ?_
  have n_1 : vp_in x1 8 := (rg_in hx1 (by decide))
  refine th_iald hx hb hK hP 29 (by decide) (sX_29 hT) n_1 dX3_holdsNothing_5 ?_
  refine lv_iconst (v := (-1)) hx hb dX3_holdsNothing_6 (by decide) ?_
  refine lv_icmp_ne (tgt := 14) hx hb dX3_holdsNothing_7 (by decide) (fun (c_2 : ¬ ((ga (C 29) (x1).toNatClampNeg) = (-1))) => ?_) (fun (c_2 : (ga (C 29) (x1).toNatClampNeg) = (-1)) => ?_)
  · refine lv_iconst (v := 0) hx hb dX3_holdsNothing_14 (by decide) ?_
    rw [hQ]
    exact W.zret (v := 0) (ty := .boolean) hx hb hr (by decide) (fun t ht hW => ⟨0, rfl, (Or.inl rfl), ht⟩) (fun q h => by cases h) dX3_holdsNothing_15
  · refine lv_iconst (v := 1) hx hb dX3_holdsNothing_10 (by decide) ?_
    refine lv_goto (tgt := 15) hx hb dX3_holdsNothing_11 (by decide) ?_
    rw [hQ]
    exact W.zret (v := 1) (ty := .boolean) hx hb hr (by decide) (fun t ht hW => ⟨1, rfl, (Or.inr rfl), ht⟩) (fun q h => by cases h) dX3_holdsNothing_15

set_option maxHeartbeats 4000000 in
set_option maxRecDepth 100000 in
theorem c_X3_holdsBridge (l : Launch) (D : va_G) (E : Nat → ClassId) (G : Nat → Nat) (a : Nat → Nat) (C : Nat → va_E) (hT : TyX a E C) (x1 : Int32) (hx1 : rg x1 0 7) : Met l yX3_holdsBridge (oh_w yX3_holdsBridge cX3_holdsBridge 2 (some .boolean)) ({ frames := 0, cells := 0, slots := 0, locals := 0 }) (oh_Pp D E G [.ref (a 4), .int x1] (oh_W 35 a C)) (vp_Si (fun r => (r = 0 ∨ r = 1))) 0 0 (fun _ => False) := by
  refine Met.ofW (cc := cX3_holdsBridge) (maxL := 2) (ret := (some .boolean)) (by decide) rfl ?_
  intro p e s m args below meth c s₁ B hml hv
  obtain ⟨rfl, hP, hK, hG⟩ := hv
  have hx := B.exec
  have hb := B.bytes
  have hr := B.returns
  have hts := atoms_spec (ws := (oh_w yX3_holdsBridge cX3_holdsBridge 2 (some .boolean))) B.pre
  have htg : ∀ w ∈ oh_t, w.before _ s = true := fun w h => hts w (List.mem_cons_of_mem _ h)
  have hown : s.vm.findClass RX3 = some m.cls := findClass_of_methodNamed B.named
  have hlocks := B.notSynchronized
  have hT0 := hT
  have hS : va_S (fun _ => False) s.heap s.heap [] := va_S.rf
  have hl := lv_entry ([.ref (a 4), .int x1]) (n := 2) (Nat.le_of_ble_eq_true rfl)
  rw [lg_entry_eq]
  generalize (lg_sl ([.ref (a 4), .int x1]) ++ List.replicate (2 - (lg_sl ([.ref (a 4), .int x1])).length) Slot.unset).toArray = ls at hl ⊢
  have hl : lv_has ls 2 [(0, .ref (a 4)), (1, .int x1)] := hl
  refine oh_genQ (fun Q hQ => ?_)
  refine lv_aload_n hx hb dX3_holdsBridge_0 rfl (lv_at hl 0 rfl) ?_
  refine va_get (D := D) (ci := 3) (v := .ref (a 29)) (C := RX3) (T := TX3) (N := 3) hx hb htg ig_3 hown hK hP 4 (oh_wg (by decide) (sX_4 hT)) rfl 0 (by decide) (htg _ q_198) (fun _ h9 => h9) rfl dX3_holdsBridge_1 ?_
  refine lv_iload_n hx hb dX3_holdsBridge_4 rfl (lv_at hl 1 rfl) ?_
  have n_1 : vp_in x1 8 := (rg_in hx1 (by decide))
  refine th_iald hx hb hK hP 29 (by decide) (sX_29 hT) n_1 dX3_holdsBridge_5 ?_
  refine lv_bipush (v := 10) hx hb dX3_holdsBridge_6 (by decide) ?_
  refine lv_icmp_lt (tgt := 15) hx hb dX3_holdsBridge_8 (by decide) (fun (c_2 : (ga (C 29) (x1).toNatClampNeg) < 10) => ?_) (fun (c_2 : ¬ ((ga (C 29) (x1).toNatClampNeg) < 10)) => ?_)
  · refine lv_iconst (v := 0) hx hb dX3_holdsBridge_15 (by decide) ?_
    rw [hQ]
    exact W.zret (v := 0) (ty := .boolean) hx hb hr (by decide) (fun t ht hW => ⟨0, rfl, (Or.inl rfl), ht⟩) (fun q h => by cases h) dX3_holdsBridge_16
  · refine lv_iconst (v := 1) hx hb dX3_holdsBridge_11 (by decide) ?_
    refine lv_goto (tgt := 16) hx hb dX3_holdsBridge_12 (by decide) ?_
    rw [hQ]
    exact W.zret (v := 1) (ty := .boolean) hx hb hr (by decide) (fun t ht hW => ⟨1, rfl, (Or.inr rfl), ht⟩) (fun q h => by cases h) dX3_holdsBridge_16

set_option maxHeartbeats 4000000 in
set_option maxRecDepth 100000 in
theorem c_X3_holdsRow (l : Launch) (D : va_G) (E : Nat → ClassId) (G : Nat → Nat) (a : Nat → Nat) (C : Nat → va_E) (hT : TyX a E C) (x1 : Int32) (hx1 : rg x1 0 7) : Met l yX3_holdsRow (oh_w yX3_holdsRow cX3_holdsRow 2 (some .boolean)) ({ frames := 1, cells := 0, slots := 0, locals := 21 }) (oh_Pp D E G [.ref (a 4), .int x1] (oh_W 35 a C)) (vp_Si (fun r => (r = 0 ∨ r = 1))) 0 0 (fun _ => False) := by
  refine Met.ofW (cc := cX3_holdsRow) (maxL := 2) (ret := (some .boolean)) (by decide) rfl ?_
  intro p e s m args below meth c s₁ B hml hv
  obtain ⟨rfl, hP, hK, hG⟩ := hv
  have hx := B.exec
  have hb := B.bytes
  have hr := B.returns
  have hts := atoms_spec (ws := (oh_w yX3_holdsRow cX3_holdsRow 2 (some .boolean))) B.pre
  have htg : ∀ w ∈ oh_t, w.before _ s = true := fun w h => hts w (List.mem_cons_of_mem _ h)
  have hown : s.vm.findClass RX3 = some m.cls := findClass_of_methodNamed B.named
  have hlocks := B.notSynchronized
  have hT0 := hT
  have hS : va_S (fun _ => False) s.heap s.heap [] := va_S.rf
  have hl := lv_entry ([.ref (a 4), .int x1]) (n := 2) (Nat.le_of_ble_eq_true rfl)
  rw [lg_entry_eq]
  generalize (lg_sl ([.ref (a 4), .int x1]) ++ List.replicate (2 - (lg_sl ([.ref (a 4), .int x1])).length) Slot.unset).toArray = ls at hl ⊢
  have hl : lv_has ls 2 [(0, .ref (a 4)), (1, .int x1)] := hl
  refine oh_genQ (fun Q hQ => ?_)
  refine lv_aload_n hx hb dX3_holdsRow_0 rfl (lv_at hl 0 rfl) ?_
  refine lv_iload_n hx hb dX3_holdsRow_1 rfl (lv_at hl 1 rfl) ?_
  refine tq_V (As := [.int x1]) (rest := []) (ws := (oh_W 35 a C)) ⟨hx, hb, hml, hown, htg⟩ (c_X3_holdsNothing l D E G a C hT x1 (rg_w hx1 (by decide))) (cwV 1 htg (oh_gV q_339 q_317 q_318 q_70 q_319) rfl rfl rfl pdVX3_holdsNothing ⟨Nat.le_of_ble_eq_true rfl, Nat.le_of_ble_eq_true rfl⟩) hK hP hG hS (va_recv hK hP (ci := 3) (q0 := 4) rfl (oh_wg (by decide) (sX_4 hT))) rfl hl.1 rfl (Nat.le_of_ble_eq_true rfl) dX3_holdsRow_2 ⟨Nat.le_of_ble_eq_true rfl, Nat.le_of_ble_eq_true rfl⟩ (fun r_1 hq_2 => ?_)
  refine lv_if_ne (tgt := 20) hx hb dX3_holdsRow_5 (by decide) (fun (c_3 : ¬ (r_1 = 0)) => ?_) (fun (c_3 : r_1 = 0) => ?_)
  · refine lv_iconst (v := 0) hx hb dX3_holdsRow_20 (by decide) ?_
    rw [hQ]
    exact W.zret (v := 0) (ty := .boolean) hx hb hr (by decide) (fun t ht hW => ⟨0, rfl, (Or.inl rfl), ht⟩) (fun q h => by cases h) dX3_holdsRow_21
  · refine lv_aload_n hx hb dX3_holdsRow_8 rfl (lv_at hl 0 rfl) ?_
    refine lv_iload_n hx hb dX3_holdsRow_9 rfl (lv_at hl 1 rfl) ?_
    refine tq_V (As := [.int x1]) (rest := []) (ws := (oh_W 35 a C)) ⟨hx, hb, hml, hown, htg⟩ (c_X3_holdsBridge l D E G a C hT x1 (rg_w hx1 (by decide))) (cwV 1 htg (oh_gV q_340 q_313 q_314 q_70 q_315) rfl rfl rfl pdVX3_holdsBridge ⟨Nat.le_of_ble_eq_true rfl, Nat.le_of_ble_eq_true rfl⟩) hK hP hG hS (va_recv hK hP (ci := 3) (q0 := 4) rfl (oh_wg (by decide) (sX_4 hT))) rfl hl.1 rfl (Nat.le_of_ble_eq_true rfl) dX3_holdsRow_10 ⟨Nat.le_of_ble_eq_true rfl, Nat.le_of_ble_eq_true rfl⟩ (fun r_4 hq_5 => ?_)
    refine lv_if_ne (tgt := 20) hx hb dX3_holdsRow_13 (by decide) (fun (c_6 : ¬ (r_4 = 0)) => ?_) (fun (c_6 : r_4 = 0) => ?_)
    · refine lv_iconst (v := 0) hx hb dX3_holdsRow_20 (by decide) ?_
      rw [hQ]
      exact W.zret (v := 0) (ty := .boolean) hx hb hr (by decide) (fun t ht hW => ⟨0, rfl, (Or.inl rfl), ht⟩) (fun q h => by cases h) dX3_holdsRow_21
    · refine lv_iconst (v := 1) hx hb dX3_holdsRow_16 (by decide) ?_
      refine lv_goto (tgt := 21) hx hb dX3_holdsRow_17 (by decide) ?_
      rw [hQ]
      exact W.zret (v := 1) (ty := .boolean) hx hb hr (by decide) (fun t ht hW => ⟨1, rfl, (Or.inr rfl), ht⟩) (fun q h => by cases h) dX3_holdsRow_21

set_option maxHeartbeats 4000000 in
set_option maxRecDepth 100000 in
theorem c_X3_countHeld (l : Launch) (D : va_G) (E : Nat → ClassId) (G : Nat → Nat) (a : Nat → Nat) (C : Nat → va_E) (hT : TyX a E C) : Met l yX3_countHeld (oh_w yX3_countHeld cX3_countHeld 3 (some .int)) ({ frames := 1, cells := 0, slots := 0, locals := 21 }) (oh_Pp D E G [.ref (a 4)] (oh_W 35 a C)) (vp_Si (fun r => True)) 0 0 (fun _ => False) := by
  refine Met.ofW (cc := cX3_countHeld) (maxL := 3) (ret := (some .int)) (by decide) rfl ?_
  intro p e s m args below meth c s₁ B hml hv
  obtain ⟨rfl, hP, hK, hG⟩ := hv
  have hx := B.exec
  have hb := B.bytes
  have hr := B.returns
  have hts := atoms_spec (ws := (oh_w yX3_countHeld cX3_countHeld 3 (some .int))) B.pre
  have htg : ∀ w ∈ oh_t, w.before _ s = true := fun w h => hts w (List.mem_cons_of_mem _ h)
  have hown : s.vm.findClass RX3 = some m.cls := findClass_of_methodNamed B.named
  have hlocks := B.notSynchronized
  have hT0 := hT
  have hS : va_S (fun _ => False) s.heap s.heap [] := va_S.rf
  have hl := lv_entry ([.ref (a 4)]) (n := 3) (Nat.le_of_ble_eq_true rfl)
  rw [lg_entry_eq]
  generalize (lg_sl ([.ref (a 4)]) ++ List.replicate (3 - (lg_sl ([.ref (a 4)])).length) Slot.unset).toArray = ls at hl ⊢
  have hl : lv_has ls 3 [(0, .ref (a 4))] := hl
  refine oh_genQ (fun Q hQ => ?_)
  refine lv_iconst (v := 0) hx hb dX3_countHeld_0 (by decide) ?_
  refine lv_istore_n (lv' := [(1, .int 0), (0, .ref (a 4))]) hx hb dX3_countHeld_1 rfl hl (by decide) rfl (fun ls hl => ?_)
  refine lv_iconst (v := 0) hx hb dX3_countHeld_2 (by decide) ?_
  refine lv_istore_n (lv' := [(2, .int 0), (1, .int 0), (0, .ref (a 4))]) hx hb dX3_countHeld_3 rfl hl (by decide) rfl (fun ls hl => ?_)
  have L_4 : ∀ (d : Nat) (z4_2 : Int32) (z4_1 : Int32) (ls : Array Slot), (8 - z4_2.toInt).toNat = d → rg z4_2 0 8 → lv_has ls 3 [(2, .int z4_2), (1, .int z4_1), (0, .ref (a 4))] → W p l e ({ frames := 1, cells := 0, slots := 0, locals := 21 }) s m (([.ref (a 4)] : List Value).toArray) below meth c s.heap [] 0 0 Q (F0 m 4 ls []) := by
    intro d
    induction d using Nat.strongRecOn with
    | ind d ih_4 =>
    intro z4_2 z4_1 ls hd_4 hz4_2 hl
    refine lv_iload_n hx hb dX3_countHeld_4 rfl (lv_at hl 0 rfl) ?_
    refine lv_bipush (v := 8) hx hb dX3_countHeld_5 (by decide) ?_
    refine lv_icmp_ge (tgt := 27) hx hb dX3_countHeld_7 (by decide) (fun (c_1 : (8 : Int32) ≤ z4_2) => ?_) (fun (c_1 : ¬ ((8 : Int32) ≤ z4_2)) => ?_)
    · refine lv_iload_n hx hb dX3_countHeld_27 rfl (lv_at hl 1 rfl) ?_
      rw [hQ]
      exact W.iret (v := z4_1) hx hb hr (fun t ht hW => ⟨z4_1, rfl, trivial, ht⟩) (fun q h => by cases h) dX3_countHeld_28
    · refine lv_aload_n hx hb dX3_countHeld_10 rfl (lv_at hl 2 rfl) ?_
      refine lv_iload_n hx hb dX3_countHeld_11 rfl (lv_at hl 0 rfl) ?_
      refine tq_V (As := [.int z4_2]) (rest := []) (ws := (oh_W 35 a C)) ⟨hx, hb, hml, hown, htg⟩ (c_X3_holdsNothing l D E G a C hT z4_2 (rg_w (rn_ltu (u' := 7) (Int32.not_le.mp c_1) hz4_2 (rg_c (v := 8) (lo := 8) (hi := 8) (by decide)) (by decide)) (by decide))) (cwV 1 htg (oh_gV q_339 q_317 q_318 q_70 q_319) rfl rfl rfl pdVX3_holdsNothing ⟨Nat.le_of_ble_eq_true rfl, Nat.le_of_ble_eq_true rfl⟩) hK hP hG hS (va_recv hK hP (ci := 3) (q0 := 4) rfl (oh_wg (by decide) (sX_4 hT))) rfl hl.1 rfl (Nat.le_of_ble_eq_true rfl) dX3_countHeld_12 ⟨Nat.le_of_ble_eq_true rfl, Nat.le_of_ble_eq_true rfl⟩ (fun r_2 hq_3 => ?_)
      refine lv_if_ne (tgt := 21) hx hb dX3_countHeld_15 (by decide) (fun (c_4 : ¬ (r_2 = 0)) => ?_) (fun (c_4 : r_2 = 0) => ?_)
      · refine lv_iinc (v := z4_2 + 1) (lv' := [(2, .int (z4_2 + 1)), (1, .int z4_1), (0, .ref (a 4))]) hx hb dX3_countHeld_21 hl (k := 0) rfl (by rfl) (by decide) rfl (fun ls hl => ?_)
        refine lv_goto (tgt := 4) hx hb dX3_countHeld_24 (by decide) ?_
        exact ih_4 _ (hd_4 ▸ mu_up 8 (rn_ltu (u' := 7) (Int32.not_le.mp c_1) hz4_2 (rg_c (v := 8) (lo := 8) (hi := 8) (by decide)) (by decide)) (by decide)) (z4_2 + 1) z4_1 ls rfl (rg_w (rg_add (lo := 1) (hi := 8) (rn_ltu (u' := 7) (Int32.not_le.mp c_1) hz4_2 (rg_c (v := 8) (lo := 8) (hi := 8) (by decide)) (by decide)) (rg_c (v := 1) (lo := 1) (hi := 1) (by decide)) (by decide)) (by decide)) (lv_sub hl [0, 1, 2] rfl)
      · refine lv_iinc (v := z4_1 + 1) (lv' := [(1, .int (z4_1 + 1)), (2, .int z4_2), (0, .ref (a 4))]) hx hb dX3_countHeld_18 hl (k := 1) rfl (by rfl) (by decide) rfl (fun ls hl => ?_)
        refine lv_iinc (v := z4_2 + 1) (lv' := [(2, .int (z4_2 + 1)), (1, .int (z4_1 + 1)), (0, .ref (a 4))]) hx hb dX3_countHeld_21 hl (k := 1) rfl (by rfl) (by decide) rfl (fun ls hl => ?_)
        refine lv_goto (tgt := 4) hx hb dX3_countHeld_24 (by decide) ?_
        exact ih_4 _ (hd_4 ▸ mu_up 8 (rn_ltu (u' := 7) (Int32.not_le.mp c_1) hz4_2 (rg_c (v := 8) (lo := 8) (hi := 8) (by decide)) (by decide)) (by decide)) (z4_2 + 1) (z4_1 + 1) ls rfl (rg_w (rg_add (lo := 1) (hi := 8) (rn_ltu (u' := 7) (Int32.not_le.mp c_1) hz4_2 (rg_c (v := 8) (lo := 8) (hi := 8) (by decide)) (by decide)) (rg_c (v := 1) (lo := 1) (hi := 1) (by decide)) (by decide)) (by decide)) (lv_sub hl [0, 1, 2] rfl)
  exact L_4 _ 0 0 ls rfl (rg_w (rg_c (v := 0) (lo := 0) (hi := 0) (by decide)) (by decide)) (lv_sub hl [0, 1, 2] rfl)

set_option maxHeartbeats 4000000 in
set_option maxRecDepth 100000 in
theorem c_X3_elementAt (l : Launch) (D : va_G) (E : Nat → ClassId) (G : Nat → Nat) (a : Nat → Nat) (C : Nat → va_E) (hT : TyX a E C) (x1 : Int32) (x2 : Int32) (hx1 : rg x1 0 7) : Met l yX3_elementAt (oh_w yX3_elementAt cX3_elementAt 3 (some .long)) ({ frames := 1, cells := 0, slots := 0, locals := 22 }) (oh_Pp D E G [.ref (a 4), .int x1, .int x2] (oh_W 35 a C)) (vp_Sl (fun r => True)) 0 0 (fun _ => False) := by
  refine Met.ofW (cc := cX3_elementAt) (maxL := 3) (ret := (some .long)) (by decide) rfl ?_
  intro p e s m args below meth c s₁ B hml hv
  obtain ⟨rfl, hP, hK, hG⟩ := hv
  have hx := B.exec
  have hb := B.bytes
  have hr := B.returns
  have hts := atoms_spec (ws := (oh_w yX3_elementAt cX3_elementAt 3 (some .long))) B.pre
  have htg : ∀ w ∈ oh_t, w.before _ s = true := fun w h => hts w (List.mem_cons_of_mem _ h)
  have hown : s.vm.findClass RX3 = some m.cls := findClass_of_methodNamed B.named
  have hlocks := B.notSynchronized
  have hT0 := hT
  have hS : va_S (fun _ => False) s.heap s.heap [] := va_S.rf
  have hl := lv_entry ([.ref (a 4), .int x1, .int x2]) (n := 3) (Nat.le_of_ble_eq_true rfl)
  rw [lg_entry_eq]
  generalize (lg_sl ([.ref (a 4), .int x1, .int x2]) ++ List.replicate (3 - (lg_sl ([.ref (a 4), .int x1, .int x2])).length) Slot.unset).toArray = ls at hl ⊢
  have hl : lv_has ls 3 [(0, .ref (a 4)), (1, .int x1), (2, .int x2)] := hl
  refine oh_genQ (fun Q hQ => ?_)
  refine lv_iload_n hx hb dX3_elementAt_0 rfl (lv_at hl 2 rfl) ?_
  refine lv_iconst (v := 0) hx hb dX3_elementAt_1 (by decide) ?_
  refine lv_aload_n hx hb dX3_elementAt_2 rfl (lv_at hl 0 rfl) ?_
  refine va_get (D := D) (ci := 3) (v := .ref (a 30)) (C := RX3) (T := TX3) (N := 3) hx hb htg ig_3 hown hK hP 4 (oh_wg (by decide) (sX_4 hT)) rfl 1 (by decide) (htg _ q_200) (fun _ h9 => h9) rfl dX3_elementAt_3 ?_
  refine lv_iload_n hx hb dX3_elementAt_6 rfl (lv_at hl 1 rfl) ?_
  have n_1 : vp_in x1 8 := (rg_in hx1 (by decide))
  refine th_iald hx hb hK hP 30 (by decide) (sX_30 hT) n_1 dX3_elementAt_7 ?_
  refine lv_iconst (v := 1) hx hb dX3_elementAt_8 (by decide) ?_
  refine lv_isub hx hb dX3_elementAt_9 ?_
  refine tq_SN (As := [.int x2, .int 0, .int ((ga (C 30) (x1).toNatClampNeg) - 1)]) (rest := []) (ws := []) ⟨hx, hb, hml, hown, htg⟩ (c_X6_within l D E G x2 (0 : Int32) ((ga (C 30) (x1).toNatClampNeg) - 1)) ⟨va_cnB (y := yX6_within) 3 htg (oh_gW q_295) rfl rfl rfl (hG.1 ("OneHeavyLoad$Shelves", 36, ⟨"OneHeavyLoad", "within", "(III)Z"⟩, "OneHeavyLoad") (List.mem_of_getElem? (i := 1) rfl)) (htg _ q_66) pdX6_within ⟨Nat.le_of_ble_eq_true rfl, Nat.le_of_ble_eq_true rfl⟩, htg _ q_294, trivial⟩ hK va_nil hG hS rfl hl.1 rfl (Nat.le_of_ble_eq_true rfl) dX3_elementAt_10 ⟨Nat.le_of_ble_eq_true rfl, Nat.le_of_ble_eq_true rfl⟩ (fun r_2 hq_3 => ?_)
  refine lv_if_eq (tgt := 30) hx hb dX3_elementAt_13 (by decide) (fun (c_4 : r_2 = 0) => ?_) (fun (c_4 : ¬ (r_2 = 0)) => ?_)
  · have u_5 := hq_3.2.2 c_4
    refine lv_lconst (v := 0) hx hb dX3_elementAt_30 (by decide) ?_
    rw [hQ]
    exact W.lret (v := 0) hx hb hr (fun t ht hW => ⟨0, rfl, trivial, ht⟩) (fun q h => by cases h) dX3_elementAt_31
  · have u_6 := hq_3.2.1 c_4
    refine lv_aload_n hx hb dX3_elementAt_16 rfl (lv_at hl 0 rfl) ?_
    refine va_get (D := D) (ci := 3) (v := .ref (a 31)) (C := RX3) (T := TX3) (N := 3) hx hb htg ig_3 hown hK hP 4 (oh_wg (by decide) (sX_4 hT)) rfl 2 (by decide) (htg _ q_202) (fun _ h9 => h9) rfl dX3_elementAt_17 ?_
    refine lv_iload_n hx hb dX3_elementAt_20 rfl (lv_at hl 1 rfl) ?_
    refine lv_bipush (v := 40) hx hb dX3_elementAt_21 (by decide) ?_
    refine lv_imul hx hb dX3_elementAt_23 ?_
    refine lv_iload_n hx hb dX3_elementAt_24 rfl (lv_at hl 2 rfl) ?_
    refine lv_iadd hx hb dX3_elementAt_25 ?_
    have n_7 : vp_in ((x1 * 40) + x2) 320 := (rg_in (rg_add (lo := 0) (hi := 319) (rg_mul (lo := 0) (hi := 280) hx1 (rg_c (v := 40) (lo := 40) (hi := 40) (by decide)) (by decide)) (rn_leu u_6.2 (rn_lel u_6.1 (rg_c (v := 0) (lo := 0) (hi := 0) (by decide)) (rg_any _)) (rg_sub (lo := (-1)) (hi := 39) (tA_rdc (lo := 0) (hi := 40) (tX_30 hT0) n_1 (Nat.mod_one _) (by decide)) (rg_c (v := 1) (lo := 1) (hi := 1) (by decide)) (by decide))) (by decide)) (by decide))
    refine th_lald hx hb hK hP 31 (by decide) (sX_31 hT) n_7 dX3_elementAt_26 ?_
    refine lv_goto (tgt := 31) hx hb dX3_elementAt_27 (by decide) ?_
    rw [hQ]
    exact W.lret (v := gb (C 31) ((x1 * 40) + x2).toNatClampNeg) hx hb hr (fun t ht hW => ⟨gb (C 31) ((x1 * 40) + x2).toNatClampNeg, rfl, trivial, ht⟩) (fun q h => by cases h) dX3_elementAt_31

set_option maxHeartbeats 4000000 in
set_option maxRecDepth 100000 in
theorem c_X3_asSort (l : Launch) (D : va_G) (E : Nat → ClassId) (G : Nat → Nat) (x1 : Int32) (x2 : Int64) : Met l yX3_asSort (oh_w yX3_asSort cX3_asSort 3 (some .long)) ({ frames := 0, cells := 0, slots := 0, locals := 0 }) (oh_Pp D E G [.int x1, .long x2] []) (vp_Sl (fun r => True)) 0 0 (fun _ => False) := by
  refine Met.ofW (cc := cX3_asSort) (maxL := 3) (ret := (some .long)) (by decide) rfl ?_
  intro p e s m args below meth c s₁ B hml hv
  obtain ⟨rfl, hP, hK, hG⟩ := hv
  have hx := B.exec
  have hb := B.bytes
  have hr := B.returns
  have hts := atoms_spec (ws := (oh_w yX3_asSort cX3_asSort 3 (some .long))) B.pre
  have htg : ∀ w ∈ oh_t, w.before _ s = true := fun w h => hts w (List.mem_cons_of_mem _ h)
  have hown : s.vm.findClass RX3 = some m.cls := findClass_of_methodNamed B.named
  have hlocks := B.notSynchronized
  have hS : va_S (fun _ => False) s.heap s.heap [] := va_S.rf
  have hl := lv_entry ([.int x1, .long x2]) (n := 3) (Nat.le_of_ble_eq_true rfl)
  rw [lg_entry_eq]
  generalize (lg_sl ([.int x1, .long x2]) ++ List.replicate (3 - (lg_sl ([.int x1, .long x2])).length) Slot.unset).toArray = ls at hl ⊢
  have hl : lv_has ls 3 [(0, .int x1), (1, .long x2)] := hl
  refine oh_genQ (fun Q hQ => ?_)
  refine lv_iload_n hx hb dX3_asSort_0 rfl (lv_at hl 0 rfl) ?_
  by_cases c_1 : x1 = 0
  · refine lv_tableIn (off := 35) (tgt := 36) hx hb dX3_asSort_1 (by rw [c_1]; decide) (by rw [c_1]; decide) (by rw [c_1]; decide) (by decide) ?_
    refine lv_lload_n hx hb dX3_asSort_36 rfl (lv_at hl 1 rfl) ?_
    refine lv_l2i (v := Int64.toInt32 x2) hx hb dX3_asSort_37 rfl ?_
    refine lv_i2b (v := (Int64.toInt32 x2).toInt8.toInt32) hx hb dX3_asSort_38 rfl ?_
    refine lv_i2l (v := Int32.toInt64 ((Int64.toInt32 x2).toInt8.toInt32)) hx hb dX3_asSort_39 (by rfl) ?_
    rw [hQ]
    exact W.lret (v := Int32.toInt64 ((Int64.toInt32 x2).toInt8.toInt32)) hx hb hr (fun t ht hW => ⟨Int32.toInt64 ((Int64.toInt32 x2).toInt8.toInt32), rfl, trivial, ht⟩) (fun q h => by cases h) dX3_asSort_40
  · by_cases c_2 : x1 = 1
    · refine lv_tableIn (off := 40) (tgt := 41) hx hb dX3_asSort_1 (by rw [c_2]; decide) (by rw [c_2]; decide) (by rw [c_2]; decide) (by decide) ?_
      refine lv_lload_n hx hb dX3_asSort_41 rfl (lv_at hl 1 rfl) ?_
      refine lv_l2i (v := Int64.toInt32 x2) hx hb dX3_asSort_42 rfl ?_
      refine lv_i2s (v := (Int64.toInt32 x2).toInt16.toInt32) hx hb dX3_asSort_43 rfl ?_
      refine lv_i2l (v := Int32.toInt64 ((Int64.toInt32 x2).toInt16.toInt32)) hx hb dX3_asSort_44 (by rfl) ?_
      rw [hQ]
      exact W.lret (v := Int32.toInt64 ((Int64.toInt32 x2).toInt16.toInt32)) hx hb hr (fun t ht hW => ⟨Int32.toInt64 ((Int64.toInt32 x2).toInt16.toInt32), rfl, trivial, ht⟩) (fun q h => by cases h) dX3_asSort_45
    · by_cases c_3 : x1 = 2
      · refine lv_tableIn (off := 45) (tgt := 46) hx hb dX3_asSort_1 (by rw [c_3]; decide) (by rw [c_3]; decide) (by rw [c_3]; decide) (by decide) ?_
        refine lv_lload_n hx hb dX3_asSort_46 rfl (lv_at hl 1 rfl) ?_
        refine lv_l2i (v := Int64.toInt32 x2) hx hb dX3_asSort_47 rfl ?_
        refine lv_i2l (v := Int32.toInt64 (Int64.toInt32 x2)) hx hb dX3_asSort_48 (by rfl) ?_
        rw [hQ]
        exact W.lret (v := Int32.toInt64 (Int64.toInt32 x2)) hx hb hr (fun t ht hW => ⟨Int32.toInt64 (Int64.toInt32 x2), rfl, trivial, ht⟩) (fun q h => by cases h) dX3_asSort_49
      · by_cases c_4 : x1 = 3
        · refine lv_tableIn (off := 61) (tgt := 62) hx hb dX3_asSort_1 (by rw [c_4]; decide) (by rw [c_4]; decide) (by rw [c_4]; decide) (by decide) ?_
          refine lv_lload_n hx hb dX3_asSort_62 rfl (lv_at hl 1 rfl) ?_
          rw [hQ]
          exact W.lret (v := x2) hx hb hr (fun t ht hW => ⟨x2, rfl, trivial, ht⟩) (fun q h => by cases h) dX3_asSort_63
        · by_cases c_5 : x1 = 4
          · refine lv_tableIn (off := 49) (tgt := 50) hx hb dX3_asSort_1 (by rw [c_5]; decide) (by rw [c_5]; decide) (by rw [c_5]; decide) (by decide) ?_
            refine lv_lload_n hx hb dX3_asSort_50 rfl (lv_at hl 1 rfl) ?_
            refine lv_lconst (v := 0) hx hb dX3_asSort_51 (by decide) ?_
            refine W.lcmp hx hb dX3_asSort_52 ?_
            refine lv_if_eq (tgt := 60) hx hb dX3_asSort_53 (by decide) (fun (c_6 : (lg_cmp x2 0) = 0) => ?_) (fun (c_6 : ¬ ((lg_cmp x2 0) = 0)) => ?_)
            · refine lv_lconst (v := 0) hx hb dX3_asSort_60 (by decide) ?_
              rw [hQ]
              exact W.lret (v := 0) hx hb hr (fun t ht hW => ⟨0, rfl, trivial, ht⟩) (fun q h => by cases h) dX3_asSort_61
            · refine lv_lconst (v := 1) hx hb dX3_asSort_56 (by decide) ?_
              refine lv_goto (tgt := 61) hx hb dX3_asSort_57 (by decide) ?_
              rw [hQ]
              exact W.lret (v := 1) hx hb hr (fun t ht hW => ⟨1, rfl, trivial, ht⟩) (fun q h => by cases h) dX3_asSort_61
          · refine lv_tableOut (tgt := 62) hx hb dX3_asSort_1 (by have h9 := And.intro (oh_ne c_1 (k := 0) (by decide)) (And.intro (oh_ne c_2 (k := 1) (by decide)) (And.intro (oh_ne c_3 (k := 2) (by decide)) (And.intro (oh_ne c_4 (k := 3) (by decide)) (And.intro (oh_ne c_5 (k := 4) (by decide)) trivial)))); omega) (by decide) ?_
            refine lv_lload_n hx hb dX3_asSort_62 rfl (lv_at hl 1 rfl) ?_
            rw [hQ]
            exact W.lret (v := x2) hx hb hr (fun t ht hW => ⟨x2, rfl, trivial, ht⟩) (fun q h => by cases h) dX3_asSort_63

set_option maxHeartbeats 4000000 in
set_option maxRecDepth 100000 in
theorem c_X3_putElement (l : Launch) (D : va_G) (E : Nat → ClassId) (G : Nat → Nat) (sz : Nat) (a : Nat → Nat) (C : Nat → va_E) (hT : TyX a E C) (x1 : Int32) (x2 : Int32) (x3 : Int64) (hx1 : rg x1 0 7) (hx2 : rg x2 0 39) : Met l yX3_putElement (oh_w yX3_putElement cX3_putElement 5 none) ({ frames := 1, cells := 0, slots := 0, locals := 22 }) (oh_Pm D E G [.ref (a 4), .int x1, .int x2, .long x3] (oh_W 35 a C) sz) (va_Qv (fun (u : Nat → va_E) => TyX a E u ∧ fr [(31, 32)] [] C u ∧ True) (oh_B D (va_A (oh_W 35 a C) sz) (fun u => oh_W 35 a u)) (va_A (oh_W 35 a C) sz)) 0 0 (va_A (oh_W 35 a C) sz) := by
  refine Met.ofW (cc := cX3_putElement) (maxL := 5) (ret := none) (by decide) rfl ?_
  intro p e s m args below meth c s₁ B hml hv
  obtain ⟨rfl, hsz, hP, hK, hD0, hG⟩ := hv
  have hx := B.exec
  have hb := B.bytes
  have hr := B.returns
  have hts := atoms_spec (ws := (oh_w yX3_putElement cX3_putElement 5 none)) B.pre
  have htg : ∀ w ∈ oh_t, w.before _ s = true := fun w h => hts w (List.mem_cons_of_mem _ h)
  have hown : s.vm.findClass RX3 = some m.cls := findClass_of_methodNamed B.named
  have hlocks := B.notSynchronized
  have hT0 := hT
  subst hsz
  have hD := hD0.self (sz := s.heap.size)
  generalize hAe : va_A (oh_W 35 a C) s.heap.size = A at hD hG ⊢
  have hA : ∀ q : Nat, s.heap.size ≤ q → A q := fun q h => by rw [← hAe]; exact Or.inr h
  have hS : va_S A s.heap s.heap [] := va_S.rf
  have hF : fr [(31, 32)] [] C C := fr_rf
  have hl := lv_entry ([.ref (a 4), .int x1, .int x2, .long x3]) (n := 5) (Nat.le_of_ble_eq_true rfl)
  rw [lg_entry_eq]
  generalize (lg_sl ([.ref (a 4), .int x1, .int x2, .long x3]) ++ List.replicate (5 - (lg_sl ([.ref (a 4), .int x1, .int x2, .long x3])).length) Slot.unset).toArray = ls at hl ⊢
  have hl : lv_has ls 5 [(0, .ref (a 4)), (1, .int x1), (2, .int x2), (3, .long x3)] := hl
  refine oh_genQ (fun Q hQ => ?_)
  refine lv_aload_n hx hb dX3_putElement_0 rfl (lv_at hl 0 rfl) ?_
  refine va_get (D := D) (ci := 3) (v := .ref (a 31)) (C := RX3) (T := TX3) (N := 3) hx hb htg ig_3 hown hK hP 4 (oh_wg (by decide) (sX_4 hT)) rfl 2 (by decide) (htg _ q_202) (fun _ h9 => h9) rfl dX3_putElement_1 ?_
  refine lv_iload_n hx hb dX3_putElement_4 rfl (lv_at hl 1 rfl) ?_
  refine lv_bipush (v := 40) hx hb dX3_putElement_5 (by decide) ?_
  refine lv_imul hx hb dX3_putElement_7 ?_
  refine lv_iload_n hx hb dX3_putElement_8 rfl (lv_at hl 2 rfl) ?_
  refine lv_iadd hx hb dX3_putElement_9 ?_
  refine lv_aload_n hx hb dX3_putElement_10 rfl (lv_at hl 0 rfl) ?_
  refine va_get (D := D) (ci := 3) (v := .ref (a 29)) (C := RX3) (T := TX3) (N := 3) hx hb htg ig_3 hown hK hP 4 (oh_wg (by decide) (sX_4 hT)) rfl 0 (by decide) (htg _ q_198) (fun _ h9 => h9) rfl dX3_putElement_11 ?_
  refine lv_iload_n hx hb dX3_putElement_14 rfl (lv_at hl 1 rfl) ?_
  have n_1 : vp_in x1 8 := (rg_in hx1 (by decide))
  refine th_iald hx hb hK hP 29 (by decide) (sX_29 hT) n_1 dX3_putElement_15 ?_
  refine lv_lload_n hx hb dX3_putElement_16 rfl (lv_at hl 3 rfl) ?_
  refine tq_Sl (As := [.int (ga (C 29) (x1).toNatClampNeg), .long x3]) (rest := [.int ((x1 * 40) + x2), .ref (a 31)]) (ws := []) ⟨hx, hb, hml, hown, htg⟩ (c_X3_asSort l D E G (ga (C 29) (x1).toNatClampNeg) x3) (va_cwS 2 htg (oh_gS q_324 q_325 q_70 q_326) rfl rfl rfl pdX3_asSort ⟨Nat.le_of_ble_eq_true rfl, Nat.le_of_ble_eq_true rfl⟩) hK va_nil hG hS rfl hl.1 rfl (Nat.le_of_ble_eq_true rfl) dX3_putElement_17 ⟨Nat.le_of_ble_eq_true rfl, Nat.le_of_ble_eq_true rfl⟩ (fun r_2 hq_3 => ?_)
  have n_4 : vp_in ((x1 * 40) + x2) 320 := (rg_in (rg_add (lo := 0) (hi := 319) (rg_mul (lo := 0) (hi := 280) hx1 (rg_c (v := 40) (lo := 40) (hi := 40) (by decide)) (by decide)) hx2 (by decide)) (by decide))
  refine th_last (T := TyX a E) (Rl := fr [(31, 32)] [] C) hx hb hK hP hD hS 31 (by decide) (sX_31 hT) n_4 (hT.up 31 rfl) (fr_st hF (by decide) (by decide)) dX3_putElement_20 (fun C_5 H locs e_6 hT hF hP hD hS => ?_)
  have t_7 := hT
  rw [hQ]
  exact W.vret hx hb hr (fun t ht hW => ⟨⟨C_5, rfl, ⟨hT, hF, trivial⟩, ⟨by rw [ht]; exact hP, hD⟩⟩, hS.F ht⟩) hS.2.2 dX3_putElement_21
