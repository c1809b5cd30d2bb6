set_option maxHeartbeats 4000000 in
set_option maxRecDepth 100000 in
theorem c_X7_best (l : Launch) (D : va_G) (E : Nat → ClassId) (G : Nat → Nat) (sz : Nat) (a : Nat → Nat) (C : Nat → va_E) (n : Nat) (hn : 74 ≤ n) (hT : TyM a E C) (x1 : Int32) (x2 : Int32) (x3 : Int32) (hR : RelM C) : Met l yX7_best (oh_w yX7_best cX7_best 9 (some .int)) ({ frames := 7, cells := 0, slots := 0, locals := 177 }) (oh_Pm D E G [.ref (a 0), .int x1, .int x2, .int x3] (oh_W n a C) sz) (va_Qi (fun r (u : Nat → va_E) => TyM a E u ∧ fr [(8, 9), (15, 16)] [] C u ∧ (RelM u)) (oh_B D (va_A (oh_W n a C) sz) (fun u => oh_W n a u)) (va_A (oh_W n a C) sz)) 0 0 (va_A (oh_W n a C) sz) := by
  refine Met.ofW (cc := cX7_best) (maxL := 9) (ret := (some .int)) (by decide) rfl ?_
  intro p e s m args below meth c s₁ B hml hv
  obtain ⟨rfl, hsz, hP, hK, hD0, hG⟩ := hv
  have hx := B.exec
  have hb := B.bytes
  have hr := B.returns
  have hts := atoms_spec (ws := (oh_w yX7_best cX7_best 9 (some .int))) B.pre
  have htg : ∀ w ∈ oh_t, w.before _ s = true := fun w h => hts w (List.mem_cons_of_mem _ h)
  have hown : s.vm.findClass RX7 = some m.cls := findClass_of_methodNamed B.named
  have hlocks := B.notSynchronized
  have hT0 := hT
  subst hsz
  have hD := hD0.self (sz := s.heap.size)
  generalize hAe : va_A (oh_W n a C) s.heap.size = A at hD hG ⊢
  have hA : ∀ q : Nat, s.heap.size ≤ q → A q := fun q h => by rw [← hAe]; exact Or.inr h
  have hS : va_S A s.heap s.heap [] := va_S.rf
  have hF : fr [(8, 9), (15, 16)] [] C C := fr_rf
  have hl := lv_entry ([.ref (a 0), .int x1, .int x2, .int x3]) (n := 9) (Nat.le_of_ble_eq_true rfl)
  rw [lg_entry_eq]
  generalize (lg_sl ([.ref (a 0), .int x1, .int x2, .int x3]) ++ List.replicate (9 - (lg_sl ([.ref (a 0), .int x1, .int x2, .int x3])).length) Slot.unset).toArray = ls at hl ⊢
  have hl : lv_has ls 9 [(0, .ref (a 0)), (1, .int x1), (2, .int x2), (3, .int x3)] := hl
  refine oh_genQ (fun Q hQ => ?_)
  refine lv_iload_n hx hb dX7_best_0 rfl (lv_at hl 1 rfl) ?_
  refine tq_S (As := [.int x1]) (rest := []) (ws := []) ⟨hx, hb, hml, hown, htg⟩ (c_X7_isPlace l D E G x1) (va_cwS 1 htg (oh_gS q_1130 q_1131 q_73 q_1132) rfl rfl rfl pdX7_isPlace ⟨Nat.le_of_ble_eq_true rfl, Nat.le_of_ble_eq_true rfl⟩) hK va_nil hG hS rfl hl.1 rfl (Nat.le_of_ble_eq_true rfl) dX7_best_1 ⟨Nat.le_of_ble_eq_true rfl, Nat.le_of_ble_eq_true rfl⟩ (fun r_1 hq_2 => ?_)
  refine lv_if_eq (tgt := 26) hx hb dX7_best_4 (by decide) (fun (c_3 : r_1 = 0) => ?_) (fun (c_3 : ¬ (r_1 = 0)) => ?_)
  · refine lv_aload_n hx hb dX7_best_26 rfl (lv_at hl 0 rfl) ?_
    refine lv_bipush (v := (-2)) hx hb dX7_best_27 (by decide) ?_
    refine tm_V (As := [.int (-2)]) (rest := []) ⟨hx, hb, hml, hown, htg⟩ (c_X7_refuse l D E G _ a C n hn hT ((-2) : Int32) (rg_w (rg_c (v := (-2)) (lo := (-2)) (hi := (-2)) (by decide)) (by decide))) (cwV 1 htg (oh_gV q_1071 q_1073 q_29 q_73 q_1074) rfl rfl rfl pdVX7_refuse ⟨Nat.le_of_ble_eq_true rfl, Nat.le_of_ble_eq_true rfl⟩) hK hP hD hG hS hA (va_recv hK hP (ci := 7) (q0 := 0) rfl (oh_wg (Nat.lt_of_lt_of_le (by decide) hn) (sM_0 hT))) rfl hl.1 rfl (Nat.le_of_ble_eq_true rfl) dX7_best_29 ⟨Nat.le_of_ble_eq_true rfl, Nat.le_of_ble_eq_true rfl⟩ (fun r_4 C_5 H locs hq_6 hP hD hS => ?_)
    obtain ⟨hT, f_7, hq_6⟩ := hq_6
    have hF := fr_tr hF f_7 (by decide) (by decide)
    refine W.widen (k := 0) (n := 0) (Nat.le_refl _) (Nat.le_refl _) ?_
    have t_8 := hT
    rw [hQ]
    exact W.iret (v := r_4) hx hb hr (fun t ht hW => ⟨⟨r_4, C_5, rfl, ⟨hT, hF, ⟨hR.1.fr hF (by decide), hR.2.fr hF (by decide)⟩⟩, ⟨by rw [ht]; exact hP, hD⟩⟩, hS.F ht⟩) hS.2.2 dX7_best_32
  · have u_9 := hq_2.2 c_3
    refine lv_iload_n hx hb dX7_best_7 rfl (lv_at hl 2 rfl) ?_
    refine tq_S (As := [.int x2]) (rest := []) (ws := []) ⟨hx, hb, hml, hown, htg⟩ (c_X7_isPlace l D E G x2) (va_cwS 1 htg (oh_gS q_1130 q_1131 q_73 q_1132) rfl rfl rfl pdX7_isPlace ⟨Nat.le_of_ble_eq_true rfl, Nat.le_of_ble_eq_true rfl⟩) hK va_nil hG hS rfl hl.1 rfl (Nat.le_of_ble_eq_true rfl) dX7_best_8 ⟨Nat.le_of_ble_eq_true rfl, Nat.le_of_ble_eq_true rfl⟩ (fun r_10 hq_11 => ?_)
    refine lv_if_eq (tgt := 26) hx hb dX7_best_11 (by decide) (fun (c_12 : r_10 = 0) => ?_) (fun (c_12 : ¬ (r_10 = 0)) => ?_)
    · refine lv_aload_n hx hb dX7_best_26 rfl (lv_at hl 0 rfl) ?_
      refine lv_bipush (v := (-2)) hx hb dX7_best_27 (by decide) ?_
      refine tm_V (As := [.int (-2)]) (rest := []) ⟨hx, hb, hml, hown, htg⟩ (c_X7_refuse l D E G _ a C n hn hT ((-2) : Int32) (rg_w (rg_c (v := (-2)) (lo := (-2)) (hi := (-2)) (by decide)) (by decide))) (cwV 1 htg (oh_gV q_1071 q_1073 q_29 q_73 q_1074) rfl rfl rfl pdVX7_refuse ⟨Nat.le_of_ble_eq_true rfl, Nat.le_of_ble_eq_true rfl⟩) hK hP hD hG hS hA (va_recv hK hP (ci := 7) (q0 := 0) rfl (oh_wg (Nat.lt_of_lt_of_le (by decide) hn) (sM_0 hT))) rfl hl.1 rfl (Nat.le_of_ble_eq_true rfl) dX7_best_29 ⟨Nat.le_of_ble_eq_true rfl, Nat.le_of_ble_eq_true rfl⟩ (fun r_13 C_14 H locs hq_15 hP hD hS => ?_)
      obtain ⟨hT, f_16, hq_15⟩ := hq_15
      have hF := fr_tr hF f_16 (by decide) (by decide)
      refine W.widen (k := 0) (n := 0) (Nat.le_refl _) (Nat.le_refl _) ?_
      have t_17 := hT
      rw [hQ]
      exact W.iret (v := r_13) hx hb hr (fun t ht hW => ⟨⟨r_13, C_14, rfl, ⟨hT, hF, ⟨hR.1.fr hF (by decide), hR.2.fr hF (by decide)⟩⟩, ⟨by rw [ht]; exact hP, hD⟩⟩, hS.F ht⟩) hS.2.2 dX7_best_32
    · have u_18 := hq_11.2 c_12
      refine lv_iload_n hx hb dX7_best_14 rfl (lv_at hl 3 rfl) ?_
      refine lv_i2l (v := Int32.toInt64 x3) hx hb dX7_best_15 (by rfl) ?_
      refine lv_lconst (v := 0) hx hb dX7_best_16 (by decide) ?_
      refine lv_ldc2 (v := 2) hx hb hown (htg _ q_1162) dX7_best_17 ?_
      refine tq_S (As := [.long (Int32.toInt64 x3), .long 0, .long 2]) (rest := []) (ws := []) ⟨hx, hb, hml, hown, htg⟩ (c_X7_in l D E G (Int32.toInt64 x3) (0 : Int64) (2 : Int64)) (va_cwS 3 htg (oh_gS q_1066 q_1067 q_73 q_1068) rfl rfl rfl pdX7_in ⟨Nat.le_of_ble_eq_true rfl, Nat.le_of_ble_eq_true rfl⟩) hK va_nil hG hS rfl hl.1 rfl (Nat.le_of_ble_eq_true rfl) dX7_best_20 ⟨Nat.le_of_ble_eq_true rfl, Nat.le_of_ble_eq_true rfl⟩ (fun r_19 hq_20 => ?_)
      refine lv_if_ne (tgt := 33) hx hb dX7_best_23 (by decide) (fun (c_21 : ¬ (r_19 = 0)) => ?_) (fun (c_21 : r_19 = 0) => ?_)
      · have u_22 := hq_20.2.1 c_21
        refine lv_iconst (v := (-1)) hx hb dX7_best_33 (by decide) ?_
        refine lv_istore (lv' := [(4, .int (-1)), (0, .ref (a 0)), (1, .int x1), (2, .int x2), (3, .int x3)]) hx hb dX7_best_34 hl (by decide) rfl (fun ls hl => ?_)
        refine lv_iconst (v := 0) hx hb dX7_best_36 (by decide) ?_
        refine lv_istore (lv' := [(5, .int 0), (4, .int (-1)), (0, .ref (a 0)), (1, .int x1), (2, .int x2), (3, .int x3)]) hx hb dX7_best_37 hl (by decide) rfl (fun ls hl => ?_)
        refine lv_iconst (v := 0) hx hb dX7_best_39 (by decide) ?_
        refine lv_istore (lv' := [(6, .int 0), (5, .int 0), (4, .int (-1)), (0, .ref (a 0)), (1, .int x1), (2, .int x2), (3, .int x3)]) hx hb dX7_best_40 hl (by decide) rfl (fun ls hl => ?_)
        have L_42 : ∀ (d : Nat) (K42 : Nat → va_E) (z42_6 : Int32) (z42_5 : Int32) (z42_4 : Int32) (H : Heap) (locs : List Loc) (ls : Array Slot), (5 - z42_6.toInt).toNat = d → rg z42_6 0 5 → TyM a E K42 → fr [(8, 9), (15, 16)] [] C K42 → fr [(15, 16)] [] C K42 → va_P D vwCl (oh_W n a K42) H → va_D A (oh_W n a K42) → va_S A s.heap H locs → lv_has ls 9 [(6, .int z42_6), (5, .int z42_5), (4, .int z42_4), (0, .ref (a 0)), (1, .int x1), (2, .int x2), (3, .int x3)] → W p l e ({ frames := 7, cells := 0, slots := 0, locals := 177 }) s m (([.ref (a 0), .int x1, .int x2, .int x3] : List Value).toArray) below meth c H locs 0 0 Q (F0 m 42 ls []) := by
          intro d
          induction d using Nat.strongRecOn with
          | ind d ih_42 =>
          intro K42 z42_6 z42_5 z42_4 H locs ls hd_42 hz42_6 hT hF hLF_42 hP hD hS hl
          have t_23 := hT
          refine lv_iload hx hb dX7_best_42 (lv_at hl 0 rfl) ?_
          refine lv_aload_n hx hb dX7_best_44 rfl (lv_at hl 3 rfl) ?_
          refine va_get (D := D) (ci := 7) (v := .int (gi (C 0) 13)) (C := RX7) (T := TX7) (N := 29) hx hb htg ig_7 hown hK hP 0 (oh_wg (Nat.lt_of_lt_of_le (by decide) hn) (sM_0 hT)) rfl 13 (by decide) (htg _ q_986) (fun _ h9 => h9) (oh_fv (c := K42 0) (j := 13) rfl (congrArg vi (hLF_42.2 13 (by decide)))) dX7_best_45 ?_
          refine lv_icmp_ge (tgt := 123) hx hb dX7_best_48 (by decide) (fun (c_24 : (gi (C 0) 13) ≤ z42_6) => ?_) (fun (c_24 : ¬ ((gi (C 0) 13) ≤ z42_6)) => ?_)
          · refine lv_iload hx hb dX7_best_123 (lv_at hl 2 rfl) ?_
            refine lv_iconst (v := (-1)) hx hb dX7_best_125 (by decide) ?_
            refine lv_icmp_ne (tgt := 136) hx hb dX7_best_126 (by decide) (fun (c_25 : ¬ (z42_4 = (-1))) => ?_) (fun (c_25 : z42_4 = (-1)) => ?_)
            · refine lv_iload_n hx hb dX7_best_136 rfl (lv_at hl 6 rfl) ?_
              refine lv_if_ne (tgt := 148) hx hb dX7_best_137 (by decide) (fun (c_26 : ¬ (x3 = 0)) => ?_) (fun (c_26 : x3 = 0) => ?_)
              · refine lv_iload_n hx hb dX7_best_148 rfl (lv_at hl 6 rfl) ?_
                refine lv_iconst (v := 1) hx hb dX7_best_149 (by decide) ?_
                refine lv_icmp_ne (tgt := 161) hx hb dX7_best_150 (by decide) (fun (c_27 : ¬ (x3 = 1)) => ?_) (fun (c_27 : x3 = 1) => ?_)
                · refine lv_iload hx hb dX7_best_161 (lv_at hl 1 rfl) ?_
                  rw [hQ]
                  exact W.iret (v := z42_5) hx hb hr (fun t ht hW => ⟨⟨z42_5, K42, rfl, ⟨hT, hF, ⟨hR.1.fr hF (by decide), hR.2.fr hF (by decide)⟩⟩, ⟨by rw [ht]; exact hP, hD⟩⟩, hS.F ht⟩) hS.2.2 dX7_best_163
                · refine lv_iload hx hb dX7_best_153 (lv_at hl 2 rfl) ?_
                  refine lv_bipush (v := 100) hx hb dX7_best_155 (by decide) ?_
                  refine lv_irem hx hb dX7_best_157 (by decide) ?_
                  refine lv_goto (tgt := 163) hx hb dX7_best_158 (by decide) ?_
                  rw [hQ]
                  exact W.iret (v := z42_4 - z42_4 / 100 * 100) hx hb hr (fun t ht hW => ⟨⟨z42_4 - z42_4 / 100 * 100, K42, rfl, ⟨hT, hF, ⟨hR.1.fr hF (by decide), hR.2.fr hF (by decide)⟩⟩, ⟨by rw [ht]; exact hP, hD⟩⟩, hS.F ht⟩) hS.2.2 dX7_best_163
              · refine lv_iload hx hb dX7_best_140 (lv_at hl 2 rfl) ?_
                refine lv_bipush (v := 100) hx hb dX7_best_142 (by decide) ?_
                refine lv_idiv hx hb dX7_best_144 (by decide) ?_
                refine lv_goto (tgt := 163) hx hb dX7_best_145 (by decide) ?_
                rw [hQ]
                exact W.iret (v := z42_4 / 100) hx hb hr (fun t ht hW => ⟨⟨z42_4 / 100, K42, rfl, ⟨hT, hF, ⟨hR.1.fr hF (by decide), hR.2.fr hF (by decide)⟩⟩, ⟨by rw [ht]; exact hP, hD⟩⟩, hS.F ht⟩) hS.2.2 dX7_best_163
            · refine lv_aload_n hx hb dX7_best_129 rfl (lv_at hl 3 rfl) ?_
              refine lv_bipush (v := (-5)) hx hb dX7_best_130 (by decide) ?_
              refine tm_V (As := [.int (-5)]) (rest := []) ⟨hx, hb, hml, hown, htg⟩ (c_X7_refuse l D E G _ a K42 n hn hT ((-5) : Int32) (rg_w (rg_c (v := (-5)) (lo := (-5)) (hi := (-5)) (by decide)) (by decide))) (cwV 1 htg (oh_gV q_1071 q_1073 q_29 q_73 q_1074) rfl rfl rfl pdVX7_refuse ⟨Nat.le_of_ble_eq_true rfl, Nat.le_of_ble_eq_true rfl⟩) hK hP hD hG hS hA (va_recv hK hP (ci := 7) (q0 := 0) rfl (oh_wg (Nat.lt_of_lt_of_le (by decide) hn) (sM_0 hT))) rfl hl.1 rfl (Nat.le_of_ble_eq_true rfl) dX7_best_132 ⟨Nat.le_of_ble_eq_true rfl, Nat.le_of_ble_eq_true rfl⟩ (fun r_28 C_29 H locs hq_30 hP hD hS => ?_)
              obtain ⟨hT, f_31, hq_30⟩ := hq_30
              have hF := fr_tr hF f_31 (by decide) (by decide)
              refine W.widen (k := 0) (n := 0) (Nat.le_refl _) (Nat.le_refl _) ?_
              have t_32 := hT
              rw [hQ]
              exact W.iret (v := r_28) hx hb hr (fun t ht hW => ⟨⟨r_28, C_29, rfl, ⟨hT, hF, ⟨hR.1.fr hF (by decide), hR.2.fr hF (by decide)⟩⟩, ⟨by rw [ht]; exact hP, hD⟩⟩, hS.F ht⟩) hS.2.2 dX7_best_135
          · refine lv_iconst (v := 0) hx hb dX7_best_51 (by decide) ?_
            refine lv_istore (lv' := [(7, .int 0), (6, .int z42_6), (5, .int z42_5), (4, .int z42_4), (0, .ref (a 0)), (1, .int x1), (2, .int x2), (3, .int x3)]) hx hb dX7_best_52 hl (by decide) rfl (fun ls hl => ?_)
            have L_54 : ∀ (d : Nat) (K54 : Nat → va_E) (z54_7 : Int32) (z54_5 : Int32) (z54_4 : Int32) (H : Heap) (locs : List Loc) (ls : Array Slot), (32 - z54_7.toInt).toNat = d → rg z54_7 0 32 → TyM a E K54 → fr [(8, 9), (15, 16)] [] C K54 → fr [(15, 16)] [] K42 K54 → va_P D vwCl (oh_W n a K54) H → va_D A (oh_W n a K54) → va_S A s.heap H locs → lv_has ls 9 [(7, .int z54_7), (6, .int z42_6), (5, .int z54_5), (4, .int z54_4), (0, .ref (a 0)), (1, .int x1), (2, .int x2), (3, .int x3)] → W p l e ({ frames := 7, cells := 0, slots := 0, locals := 177 }) s m (([.ref (a 0), .int x1, .int x2, .int x3] : List Value).toArray) below meth c H locs 0 0 Q (F0 m 54 ls []) := by
              intro d
              induction d using Nat.strongRecOn with
              | ind d ih_54 =>
              intro K54 z54_7 z54_5 z54_4 H locs ls hd_54 hz54_7 hT hF hLF_54 hP hD hS hl
              have t_33 := hT
              refine lv_iload hx hb dX7_best_54 (lv_at hl 0 rfl) ?_
              refine lv_iconst (v := 1) hx hb dX7_best_56 (by decide) ?_
              refine lv_aload_n hx hb dX7_best_57 rfl (lv_at hl 4 rfl) ?_
              refine va_get (D := D) (ci := 7) (v := .int (gi (C 0) 15)) (C := RX7) (T := TX7) (N := 29) hx hb htg ig_7 hown hK hP 0 (oh_wg (Nat.lt_of_lt_of_le (by decide) hn) (sM_0 hT)) rfl 15 (by decide) (htg _ q_988) (fun _ h9 => h9) (oh_fv (c := K54 0) (j := 15) rfl (Eq.trans (congrArg vi (hLF_54.2 15 (by decide))) (congrArg vi (hLF_42.2 15 (by decide))))) dX7_best_58 ?_
              refine lv_ishl hx hb dX7_best_61 ?_
              refine lv_icmp_ge (tgt := 117) hx hb dX7_best_62 (by decide) (fun (c_34 : ((1 : Int32) <<< ((gi (C 0) 15) &&& 31)) ≤ z54_7) => ?_) (fun (c_34 : ¬ (((1 : Int32) <<< ((gi (C 0) 15) &&& 31)) ≤ z54_7)) => ?_)
              · refine lv_iinc (v := z42_6 + 1) (lv' := [(6, .int (z42_6 + 1)), (7, .int z54_7), (5, .int z54_5), (4, .int z54_4), (0, .ref (a 0)), (1, .int x1), (2, .int x2), (3, .int x3)]) hx hb dX7_best_117 hl (k := 1) rfl (by rfl) (by decide) rfl (fun ls hl => ?_)
                refine lv_goto (tgt := 42) hx hb dX7_best_120 (by decide) ?_
                exact ih_42 _ (hd_42 ▸ mu_up 5 (rn_ltu (u' := 4) (Int32.not_le.mp c_24) hz42_6 (fM_0_13 hT0) (by decide)) (by decide)) K54 (z42_6 + 1) z54_5 z54_4 _ _ ls rfl (rg_w (rg_add (lo := 1) (hi := 5) (rn_ltu (u' := 4) (Int32.not_le.mp c_24) hz42_6 (fM_0_13 hT0) (by decide)) (rg_c (v := 1) (lo := 1) (hi := 1) (by decide)) (by decide)) (by decide)) hT hF (fr_tr hLF_42 hLF_54 (by decide) (by decide)) hP hD hS (lv_sub hl [0, 2, 3, 4, 5, 6, 7] rfl)
              · refine lv_aload_n hx hb dX7_best_65 rfl (lv_at hl 4 rfl) ?_
                refine lv_iload hx hb dX7_best_66 (lv_at hl 1 rfl) ?_
                refine lv_iload hx hb dX7_best_68 (lv_at hl 0 rfl) ?_
                refine lv_iload_n hx hb dX7_best_70 rfl (lv_at hl 5 rfl) ?_
                refine lv_iload_n hx hb dX7_best_71 rfl (lv_at hl 6 rfl) ?_
                refine lv_iconst (v := 1) hx hb dX7_best_72 (by decide) ?_
                refine tm_V (As := [.int z42_6, .int z54_7, .int x1, .int x2, .int 1]) (rest := []) ⟨hx, hb, hml, hown, htg⟩ (c_X7_cheapestOf l D E G _ a K54 n hn hT z42_6 z54_7 x1 x2 (1 : Int32) (rg_w (rn_ltu (u' := 4) (Int32.not_le.mp c_24) hz42_6 (fM_0_13 hT0) (by decide)) (by decide)) (rg_w u_9 (by decide)) (rg_w u_18 (by decide)) (oh_posU (rg_w (rn_ltu (u' := 4) (Int32.not_le.mp c_24) hz42_6 (fM_0_13 hT0) (by decide)) (by decide)) (fun i hi => hLF_54.1 _ (inR_out hi (by decide)) (by omega)) (oh_posU (rg_w (rn_ltu (u' := 4) (Int32.not_le.mp c_24) hz42_6 (fM_0_13 hT0) (by decide)) (by decide)) (fun i hi => hLF_42.1 _ (inR_out hi (by decide)) (by omega)) (oh_posw hR.1 (rg_w (rn_ltu (u' := 4) (Int32.not_le.mp c_24) hz42_6 (fM_0_13 hT0) (by decide)) (by decide)) (Int32.not_le.mp c_24))))) (cwV 5 htg (oh_gV q_1347 q_1349 q_59 q_73 q_1350) rfl rfl rfl pdVX7_cheapestOf ⟨Nat.le_of_ble_eq_true rfl, Nat.le_of_ble_eq_true rfl⟩) hK hP hD hG hS hA (va_recv hK hP (ci := 7) (q0 := 0) rfl (oh_wg (Nat.lt_of_lt_of_le (by decide) hn) (sM_0 hT))) rfl hl.1 rfl (Nat.le_of_ble_eq_true rfl) dX7_best_73 ⟨Nat.le_of_ble_eq_true rfl, Nat.le_of_ble_eq_true rfl⟩ (fun r_35 C_36 H locs hq_37 hP hD hS => ?_)
                obtain ⟨hT, f_38, hq_37⟩ := hq_37
                have hF := fr_tr hF f_38 (by decide) (by decide)
                refine W.widen (k := 0) (n := 0) (Nat.le_refl _) (Nat.le_refl _) ?_
                have t_39 := hT
                refine lv_istore (lv' := [(8, .int r_35), (7, .int z54_7), (6, .int z42_6), (5, .int z54_5), (4, .int z54_4), (0, .ref (a 0)), (1, .int x1), (2, .int x2), (3, .int x3)]) hx hb dX7_best_76 hl (by decide) rfl (fun ls hl => ?_)
                refine lv_iload hx hb dX7_best_78 (lv_at hl 0 rfl) ?_
                refine lv_iconst (v := (-1)) hx hb dX7_best_80 (by decide) ?_
                refine lv_icmp_eq (tgt := 111) hx hb dX7_best_81 (by decide) (fun (c_40 : r_35 = (-1)) => ?_) (fun (c_40 : ¬ (r_35 = (-1))) => ?_)
                · refine lv_iinc (v := z54_7 + 1) (lv' := [(7, .int (z54_7 + 1)), (8, .int r_35), (6, .int z42_6), (5, .int z54_5), (4, .int z54_4), (0, .ref (a 0)), (1, .int x1), (2, .int x2), (3, .int x3)]) hx hb dX7_best_111 hl (k := 1) rfl (by rfl) (by decide) rfl (fun ls hl => ?_)
                  refine lv_goto (tgt := 54) hx hb dX7_best_114 (by decide) ?_
                  exact ih_54 _ (hd_54 ▸ mu_up 32 (rn_ltu (u' := 31) (Int32.not_le.mp c_34) hz54_7 (rg_shl1 (fM_0_15 hT0)) (by decide)) (by decide)) C_36 (z54_7 + 1) z54_5 z54_4 _ _ ls rfl (rg_w (rg_add (lo := 1) (hi := 32) (rn_ltu (u' := 31) (Int32.not_le.mp c_34) hz54_7 (rg_shl1 (fM_0_15 hT0)) (by decide)) (rg_c (v := 1) (lo := 1) (hi := 1) (by decide)) (by decide)) (by decide)) hT hF (fr_tr hLF_54 f_38 (by decide) (by decide)) hP hD hS (lv_sub hl [0, 2, 3, 4, 5, 6, 7, 8] rfl)
                · refine lv_iload hx hb dX7_best_84 (lv_at hl 4 rfl) ?_
                  refine lv_iconst (v := (-1)) hx hb dX7_best_86 (by decide) ?_
                  refine lv_icmp_eq (tgt := 97) hx hb dX7_best_87 (by decide) (fun (c_41 : z54_4 = (-1)) => ?_) (fun (c_41 : ¬ (z54_4 = (-1))) => ?_)
                  · refine lv_bipush (v := 100) hx hb dX7_best_97 (by decide) ?_
                    refine lv_iload hx hb dX7_best_99 (lv_at hl 2 rfl) ?_
                    refine lv_imul hx hb dX7_best_101 ?_
                    refine lv_iload hx hb dX7_best_102 (lv_at hl 1 rfl) ?_
                    refine lv_iadd hx hb dX7_best_104 ?_
                    refine lv_istore (lv' := [(4, .int ((100 * z42_6) + z54_7)), (8, .int r_35), (7, .int z54_7), (6, .int z42_6), (5, .int z54_5), (0, .ref (a 0)), (1, .int x1), (2, .int x2), (3, .int x3)]) hx hb dX7_best_105 hl (by decide) rfl (fun ls hl => ?_)
                    refine lv_iload hx hb dX7_best_107 (lv_at hl 1 rfl) ?_
                    refine lv_istore (lv' := [(5, .int r_35), (4, .int ((100 * z42_6) + z54_7)), (8, .int r_35), (7, .int z54_7), (6, .int z42_6), (0, .ref (a 0)), (1, .int x1), (2, .int x2), (3, .int x3)]) hx hb dX7_best_109 hl (by decide) rfl (fun ls hl => ?_)
                    refine lv_iinc (v := z54_7 + 1) (lv' := [(7, .int (z54_7 + 1)), (5, .int r_35), (4, .int ((100 * z42_6) + z54_7)), (8, .int r_35), (6, .int z42_6), (0, .ref (a 0)), (1, .int x1), (2, .int x2), (3, .int x3)]) hx hb dX7_best_111 hl (k := 3) rfl (by rfl) (by decide) rfl (fun ls hl => ?_)
                    refine lv_goto (tgt := 54) hx hb dX7_best_114 (by decide) ?_
                    exact ih_54 _ (hd_54 ▸ mu_up 32 (rn_ltu (u' := 31) (Int32.not_le.mp c_34) hz54_7 (rg_shl1 (fM_0_15 hT0)) (by decide)) (by decide)) C_36 (z54_7 + 1) r_35 ((100 * z42_6) + z54_7) _ _ ls rfl (rg_w (rg_add (lo := 1) (hi := 32) (rn_ltu (u' := 31) (Int32.not_le.mp c_34) hz54_7 (rg_shl1 (fM_0_15 hT0)) (by decide)) (rg_c (v := 1) (lo := 1) (hi := 1) (by decide)) (by decide)) (by decide)) hT hF (fr_tr hLF_54 f_38 (by decide) (by decide)) hP hD hS (lv_sub hl [0, 4, 1, 2, 5, 6, 7, 8] rfl)
                  · refine lv_iload hx hb dX7_best_90 (lv_at hl 0 rfl) ?_
                    refine lv_iload hx hb dX7_best_92 (lv_at hl 3 rfl) ?_
                    refine lv_icmp_ge (tgt := 111) hx hb dX7_best_94 (by decide) (fun (c_42 : z54_5 ≤ r_35) => ?_) (fun (c_42 : ¬ (z54_5 ≤ r_35)) => ?_)
                    · refine lv_iinc (v := z54_7 + 1) (lv' := [(7, .int (z54_7 + 1)), (8, .int r_35), (6, .int z42_6), (5, .int z54_5), (4, .int z54_4), (0, .ref (a 0)), (1, .int x1), (2, .int x2), (3, .int x3)]) hx hb dX7_best_111 hl (k := 1) rfl (by rfl) (by decide) rfl (fun ls hl => ?_)
                      refine lv_goto (tgt := 54) hx hb dX7_best_114 (by decide) ?_
                      exact ih_54 _ (hd_54 ▸ mu_up 32 (rn_ltu (u' := 31) (Int32.not_le.mp c_34) hz54_7 (rg_shl1 (fM_0_15 hT0)) (by decide)) (by decide)) C_36 (z54_7 + 1) z54_5 z54_4 _ _ ls rfl (rg_w (rg_add (lo := 1) (hi := 32) (rn_ltu (u' := 31) (Int32.not_le.mp c_34) hz54_7 (rg_shl1 (fM_0_15 hT0)) (by decide)) (rg_c (v := 1) (lo := 1) (hi := 1) (by decide)) (by decide)) (by decide)) hT hF (fr_tr hLF_54 f_38 (by decide) (by decide)) hP hD hS (lv_sub hl [0, 2, 3, 4, 5, 6, 7, 8] rfl)
                    · refine lv_bipush (v := 100) hx hb dX7_best_97 (by decide) ?_
                      refine lv_iload hx hb dX7_best_99 (lv_at hl 2 rfl) ?_
                      refine lv_imul hx hb dX7_best_101 ?_
                      refine lv_iload hx hb dX7_best_102 (lv_at hl 1 rfl) ?_
                      refine lv_iadd hx hb dX7_best_104 ?_
                      refine lv_istore (lv' := [(4, .int ((100 * z42_6) + z54_7)), (8, .int r_35), (7, .int z54_7), (6, .int z42_6), (5, .int z54_5), (0, .ref (a 0)), (1, .int x1), (2, .int x2), (3, .int x3)]) hx hb dX7_best_105 hl (by decide) rfl (fun ls hl => ?_)
                      refine lv_iload hx hb dX7_best_107 (lv_at hl 1 rfl) ?_
                      refine lv_istore (lv' := [(5, .int r_35), (4, .int ((100 * z42_6) + z54_7)), (8, .int r_35), (7, .int z54_7), (6, .int z42_6), (0, .ref (a 0)), (1, .int x1), (2, .int x2), (3, .int x3)]) hx hb dX7_best_109 hl (by decide) rfl (fun ls hl => ?_)
                      refine lv_iinc (v := z54_7 + 1) (lv' := [(7, .int (z54_7 + 1)), (5, .int r_35), (4, .int ((100 * z42_6) + z54_7)), (8, .int r_35), (6, .int z42_6), (0, .ref (a 0)), (1, .int x1), (2, .int x2), (3, .int x3)]) hx hb dX7_best_111 hl (k := 3) rfl (by rfl) (by decide) rfl (fun ls hl => ?_)
                      refine lv_goto (tgt := 54) hx hb dX7_best_114 (by decide) ?_
                      exact ih_54 _ (hd_54 ▸ mu_up 32 (rn_ltu (u' := 31) (Int32.not_le.mp c_34) hz54_7 (rg_shl1 (fM_0_15 hT0)) (by decide)) (by decide)) C_36 (z54_7 + 1) r_35 ((100 * z42_6) + z54_7) _ _ ls rfl (rg_w (rg_add (lo := 1) (hi := 32) (rn_ltu (u' := 31) (Int32.not_le.mp c_34) hz54_7 (rg_shl1 (fM_0_15 hT0)) (by decide)) (rg_c (v := 1) (lo := 1) (hi := 1) (by decide)) (by decide)) (by decide)) hT hF (fr_tr hLF_54 f_38 (by decide) (by decide)) hP hD hS (lv_sub hl [0, 4, 1, 2, 5, 6, 7, 8] rfl)
            exact L_54 _ K42 0 z42_5 z42_4 _ _ ls rfl (rg_w (rg_c (v := 0) (lo := 0) (hi := 0) (by decide)) (by decide)) hT hF fr_rf hP hD hS (lv_sub hl [0, 1, 2, 3, 4, 5, 6, 7] rfl)
        exact L_42 _ C 0 0 (-1) _ _ ls rfl (rg_w (rg_c (v := 0) (lo := 0) (hi := 0) (by decide)) (by decide)) hT hF fr_rf hP hD hS (lv_sub hl [0, 1, 2, 3, 4, 5, 6] rfl)
      · have u_43 := hq_20.2.2 c_21
        refine lv_aload_n hx hb dX7_best_26 rfl (lv_at hl 0 rfl) ?_
        refine lv_bipush (v := (-2)) hx hb dX7_best_27 (by decide) ?_
        refine tm_V (As := [.int (-2)]) (rest := []) ⟨hx, hb, hml, hown, htg⟩ (c_X7_refuse l D E G _ a C n hn hT ((-2) : Int32) (rg_w (rg_c (v := (-2)) (lo := (-2)) (hi := (-2)) (by decide)) (by decide))) (cwV 1 htg (oh_gV q_1071 q_1073 q_29 q_73 q_1074) rfl rfl rfl pdVX7_refuse ⟨Nat.le_of_ble_eq_true rfl, Nat.le_of_ble_eq_true rfl⟩) hK hP hD hG hS hA (va_recv hK hP (ci := 7) (q0 := 0) rfl (oh_wg (Nat.lt_of_lt_of_le (by decide) hn) (sM_0 hT))) rfl hl.1 rfl (Nat.le_of_ble_eq_true rfl) dX7_best_29 ⟨Nat.le_of_ble_eq_true rfl, Nat.le_of_ble_eq_true rfl⟩ (fun r_44 C_45 H locs hq_46 hP hD hS => ?_)
        obtain ⟨hT, f_47, hq_46⟩ := hq_46
        have hF := fr_tr hF f_47 (by decide) (by decide)
        refine W.widen (k := 0) (n := 0) (Nat.le_refl _) (Nat.le_refl _) ?_
        have t_48 := hT
        rw [hQ]
        exact W.iret (v := r_44) hx hb hr (fun t ht hW => ⟨⟨r_44, C_45, rfl, ⟨hT, hF, ⟨hR.1.fr hF (by decide), hR.2.fr hF (by decide)⟩⟩, ⟨by rw [ht]; exact hP, hD⟩⟩, hS.F ht⟩) hS.2.2 dX7_best_32

theorem oh_rowsS {C : Nat → va_E} {k : Nat} {z : Int32} {u : Int} (hz : rg z 0 u) (hu : decide (u < 100) = true) (h : ∀ j : Nat, (j : Int) < z.toInt → rgL (gb (C k) j) 0 23) (hn : rgL (gb (C k) z.toNatClampNeg) 0 23) : ∀ j : Nat, (j : Int) < (z + 1).toInt → rgL (gb (C k) j) 0 23 := by
  have hu2 := of_decide_eq_true hu
  intro j hj
  have e : (z + 1).toInt = z.toInt + 1 := by
    rw [Int32.toInt_add]
    exact oh_bmod (by show _ ≤ z.toInt + 1; have := hz.1; omega) (by show z.toInt + 1 ≤ _; have := hz.2; omega)
  have e2 := oh_nat hz (by decide)
  by_cases hq : (j : Int) < z.toInt
  · exact h j hq
  · have : j = z.toNatClampNeg := by omega
    rw [this]
    exact hn
theorem oh_rows0 {C : Nat → va_E} {k : Nat} : ∀ j : Nat, (j : Int) < (0 : Int32).toInt → rgL (gb (C k) j) 0 23 := fun j hj => absurd hj (by show ¬ (j : Int) < 0; omega)
theorem oh_rowsE {C : Nat → va_E} {k : Nat} {z n : Int32} (c : n ≤ z) (h : ∀ j : Nat, (j : Int) < z.toInt → rgL (gb (C k) j) 0 23) : ∀ j : Nat, (j : Int) < n.toInt → rgL (gb (C k) j) 0 23 := fun j hj => h j (by have := Int32.le_iff_toInt_le.mp c; omega)
theorem oh_rowsI {C : Nat → va_E} {k : Nat} {z n : Int32} {u : Int} (hz : rg z 0 u) (c : z < n) (h : ∀ j : Nat, (j : Int) < n.toInt → rgL (gb (C k) j) 0 23) : rgL (gb (C k) z.toNatClampNeg) 0 23 := h _ (by have := Int32.lt_iff_toInt_lt.mp c; have := oh_nat hz (by decide); omega)

theorem rgL_w {v : Int64} {l u lo hi : Int} (h : rgL v l u) (h1 : decide (lo ≤ l ∧ u ≤ hi) = true) : rgL v lo hi := by
  have h2 := of_decide_eq_true h1
  exact ⟨Int.le_trans h2.1 h.1, Int.le_trans h.2 h2.2⟩

set_option maxHeartbeats 4000000 in
set_option maxRecDepth 100000 in
theorem c_X7_firstWrong (l : Launch) (D : va_G) (E : Nat → ClassId) (G : Nat → Nat) (sz : Nat) (a : Nat → Nat) (C : Nat → va_E) (n : Nat) (hn : 74 ≤ n) (hT : TyM a E C) (x1 : Int32) (x2 : Int32) (x3 : Int32) (x4 : Int32) (x5 : Int32) (hx1 : rg x1 0 4) (hx3 : rg x3 0 15) (hx4 : rg x4 0 7) (hx5 : rg x5 0 20) (hw : oh_pos C x1) : Met l yX7_firstWrong (oh_w yX7_firstWrong cX7_firstWrong 10 (some .int)) ({ frames := 4, cells := 0, slots := 0, locals := 97 }) (oh_Pm D E G [.ref (a 0), .int x1, .int x2, .int x3, .int x4, .int x5] (oh_W n a C) sz) (va_Qi (fun r (u : Nat → va_E) => TyM a E u ∧ fr [] [28] C u ∧ (r = (-1) → (∀ j : Nat, (j : Int) < x5.toInt → rgL (gb (C (16 + (x4).toNatClampNeg)) j) 0 23))) (oh_B D (va_A (oh_W n a C) sz) (fun u => oh_W n a u)) (va_A (oh_W n a C) sz)) 0 0 (va_A (oh_W n a C) sz) := by
  refine Met.ofW (cc := cX7_firstWrong) (maxL := 10) (ret := (some .int)) (by decide) rfl ?_
  intro p e s m args below meth c s₁ B hml hv
  obtain ⟨rfl, hsz, hP, hK, hD0, hG⟩ := hv
  have hx := B.exec
  have hb := B.bytes
  have hr := B.returns
  have hts := atoms_spec (ws := (oh_w yX7_firstWrong cX7_firstWrong 10 (some .int))) B.pre
  have htg : ∀ w ∈ oh_t, w.before _ s = true := fun w h => hts w (List.mem_cons_of_mem _ h)
  have hown : s.vm.findClass RX7 = some m.cls := findClass_of_methodNamed B.named
  have hlocks := B.notSynchronized
  have hT0 := hT
  subst hsz
  have hD := hD0.self (sz := s.heap.size)
  generalize hAe : va_A (oh_W n a C) s.heap.size = A at hD hG ⊢
  have hA : ∀ q : Nat, s.heap.size ≤ q → A q := fun q h => by rw [← hAe]; exact Or.inr h
  have hS : va_S A s.heap s.heap [] := va_S.rf
  have hF : fr [] [28] C C := fr_rf
  have hl := lv_entry ([.ref (a 0), .int x1, .int x2, .int x3, .int x4, .int x5]) (n := 10) (Nat.le_of_ble_eq_true rfl)
  rw [lg_entry_eq]
  generalize (lg_sl ([.ref (a 0), .int x1, .int x2, .int x3, .int x4, .int x5]) ++ List.replicate (10 - (lg_sl ([.ref (a 0), .int x1, .int x2, .int x3, .int x4, .int x5])).length) Slot.unset).toArray = ls at hl ⊢
  have hl : lv_has ls 10 [(0, .ref (a 0)), (1, .int x1), (2, .int x2), (3, .int x3), (4, .int x4), (5, .int x5)] := hl
  refine oh_genQ (fun Q hQ => ?_)
  refine lv_iload_n hx hb dX7_firstWrong_0 rfl (lv_at hl 3 rfl) ?_
  refine lv_istore (lv' := [(6, .int x3), (0, .ref (a 0)), (1, .int x1), (2, .int x2), (3, .int x3), (4, .int x4), (5, .int x5)]) hx hb dX7_firstWrong_1 hl (by decide) rfl (fun ls hl => ?_)
  refine lv_iconst (v := 0) hx hb dX7_firstWrong_3 (by decide) ?_
  refine lv_istore (lv' := [(7, .int 0), (6, .int x3), (0, .ref (a 0)), (1, .int x1), (2, .int x2), (3, .int x3), (4, .int x4), (5, .int x5)]) hx hb dX7_firstWrong_4 hl (by decide) rfl (fun ls hl => ?_)
  have L_6 : ∀ (d : Nat) (K6 : Nat → va_E) (z6_7 : Int32) (z6_6 : Int32) (H : Heap) (locs : List Loc) (ls : Array Slot), (20 - z6_7.toInt).toNat = d → rg z6_7 0 20 → rg z6_6 0 15 → (∀ j : Nat, (j : Int) < z6_7.toInt → rgL (gb (C (16 + (x4).toNatClampNeg)) j) 0 23) → TyM a E K6 → fr [] [28] C K6 → fr [] [] C K6 → va_P D vwCl (oh_W n a K6) H → va_D A (oh_W n a K6) → va_S A s.heap H locs → lv_has ls 10 [(7, .int z6_7), (6, .int z6_6), (0, .ref (a 0)), (1, .int x1), (2, .int x2), (3, .int x3), (4, .int x4), (5, .int x5)] → W p l e ({ frames := 4, cells := 0, slots := 0, locals := 97 }) s m (([.ref (a 0), .int x1, .int x2, .int x3, .int x4, .int x5] : List Value).toArray) below meth c H locs 0 0 Q (F0 m 6 ls []) := by
    intro d
    induction d using Nat.strongRecOn with
    | ind d ih_6 =>
    intro K6 z6_7 z6_6 H locs ls hd_6 hz6_7 hz6_6 hv_6 hT hF hLF_6 hP hD hS hl
    have t_1 := hT
    refine lv_iload hx hb dX7_firstWrong_6 (lv_at hl 0 rfl) ?_
    refine lv_iload hx hb dX7_firstWrong_8 (lv_at hl 7 rfl) ?_
    refine lv_icmp_ge (tgt := 150) hx hb dX7_firstWrong_10 (by decide) (fun (c_2 : x5 ≤ z6_7) => ?_) (fun (c_2 : ¬ (x5 ≤ z6_7)) => ?_)
    · refine lv_aload_n hx hb dX7_firstWrong_150 rfl (lv_at hl 2 rfl) ?_
      refine lv_iload hx hb dX7_firstWrong_151 (lv_at hl 1 rfl) ?_
      refine th_put (Tp := TyM a E) (Rl := fr [] [28] C) (ci := 7) (v := .int z6_6) (ty := .int) (CC := RX7) (T := TX7) (N := 29) hx hb htg ig_7 tyX7 tyX7_ok nmX7 hown hK hP hD hS 0 (Nat.lt_of_lt_of_le (by decide) hn) (sM_0 hT) rfl 28 (by decide) (htg _ q_1001) (fun _ h9 => h9) rfl (by decide +kernel) rfl rfl (Nat.le_of_ble_eq_true rfl) (hT.up 0 (by decide) ⟨rfl, (fM_0_7 hT), (fM_0_9 hT), (fM_0_11 hT), (fM_0_13 hT), (fM_0_15 hT), (fM_0_21 hT), (fM_0_23 hT)⟩) (fr_fd hF (sM_0 hT) (by decide)) dX7_firstWrong_153 (fun C_3 H locs e_4 hT hF hP hD hS => ?_)
      have t_5 := hT
      refine lv_iconst (v := (-1)) hx hb dX7_firstWrong_156 (by decide) ?_
      rw [hQ]
      exact W.iret (v := (-1)) hx hb hr (fun t ht hW => ⟨⟨(-1), C_3, rfl, ⟨hT, hF, (fun _ => (oh_rowsE c_2 hv_6))⟩, ⟨by rw [ht]; exact hP, hD⟩⟩, hS.F ht⟩) hS.2.2 dX7_firstWrong_157
    · refine lv_aload_n hx hb dX7_firstWrong_13 rfl (lv_at hl 2 rfl) ?_
      refine va_get (D := D) (ci := 7) (v := .ref (a 4)) (C := RX7) (T := TX7) (N := 29) hx hb htg ig_7 hown hK hP 0 (oh_wg (Nat.lt_of_lt_of_le (by decide) hn) (sM_0 hT)) rfl 3 (by decide) (htg _ q_976) (fun _ h9 => h9) rfl dX7_firstWrong_14 ?_
      refine lv_iload hx hb dX7_firstWrong_17 (lv_at hl 6 rfl) ?_
      have n_6 : vp_in x4 8 := (rg_in hx4 (by decide))
      have b_7 : (x4).toNatClampNeg < 8 := vp_lt n_6
      refine th_aald hx hb hK hP 4 3 (Nat.lt_of_lt_of_le (by decide) hn) (sM_4 hT) rfl n_6 dX7_firstWrong_19 ?_
      refine lv_iload hx hb dX7_firstWrong_20 (lv_at hl 0 rfl) ?_
      have n_8 : vp_in z6_7 40 := (rg_in (rn_ltu (u' := 19) (Int32.not_le.mp c_2) hz6_7 hx5 (by decide)) (by decide))
      refine th_lald hx hb hK hP (16 + (x4).toNatClampNeg) (lt_blk b_7 hn (by decide)) (Eq.trans (hLF_6.1 (16 + (x4).toNatClampNeg) (by have h9 := b_7; exact inR_out h9 (by decide)) (by omega)) (hT0.brows b_7)) n_8 dX7_firstWrong_22 ?_
      refine lv_lconst (v := 0) hx hb dX7_firstWrong_23 (by decide) ?_
      refine lv_aload_n hx hb dX7_firstWrong_24 rfl (lv_at hl 2 rfl) ?_
      refine va_get (D := D) (ci := 7) (v := .int (gi (C 0) 9)) (C := RX7) (T := TX7) (N := 29) hx hb htg ig_7 hown hK hP 0 (oh_wg (Nat.lt_of_lt_of_le (by decide) hn) (sM_0 hT)) rfl 9 (by decide) (htg _ q_982) (fun _ h9 => h9) (oh_fv (c := K6 0) (j := 9) rfl (congrArg vi (hLF_6.2 9 (by decide)))) dX7_firstWrong_25 ?_
      refine lv_iconst (v := 1) hx hb dX7_firstWrong_28 (by decide) ?_
      refine lv_isub hx hb dX7_firstWrong_29 ?_
      refine lv_i2l (v := Int32.toInt64 ((gi (C 0) 9) - 1)) hx hb dX7_firstWrong_30 (by rfl) ?_
      refine tq_S (As := [.long (gb (C (16 + (x4).toNatClampNeg)) (z6_7).toNatClampNeg), .long 0, .long (Int32.toInt64 ((gi (C 0) 9) - 1))]) (rest := []) (ws := []) ⟨hx, hb, hml, hown, htg⟩ (c_X7_in l D E G (gb (C (16 + (x4).toNatClampNeg)) (z6_7).toNatClampNeg) (0 : Int64) (Int32.toInt64 ((gi (C 0) 9) - 1))) (va_cwS 3 htg (oh_gS q_1066 q_1067 q_73 q_1068) rfl rfl rfl pdX7_in ⟨Nat.le_of_ble_eq_true rfl, Nat.le_of_ble_eq_true rfl⟩) hK va_nil hG hS rfl hl.1 rfl (Nat.le_of_ble_eq_true rfl) dX7_firstWrong_31 ⟨Nat.le_of_ble_eq_true rfl, Nat.le_of_ble_eq_true rfl⟩ (fun r_9 hq_10 => ?_)
      refine lv_if_ne (tgt := 40) hx hb dX7_firstWrong_34 (by decide) (fun (c_11 : ¬ (r_9 = 0)) => ?_) (fun (c_11 : r_9 = 0) => ?_)
      · have u_12 := hq_10.2.1 c_11
        refine lv_aload_n hx hb dX7_firstWrong_40 rfl (lv_at hl 2 rfl) ?_
        refine va_get (D := D) (ci := 7) (v := .ref (a 4)) (C := RX7) (T := TX7) (N := 29) hx hb htg ig_7 hown hK hP 0 (oh_wg (Nat.lt_of_lt_of_le (by decide) hn) (sM_0 hT)) rfl 3 (by decide) (htg _ q_976) (fun _ h9 => h9) rfl dX7_firstWrong_41 ?_
        refine lv_iload hx hb dX7_firstWrong_44 (lv_at hl 6 rfl) ?_
        have n_13 : vp_in x4 8 := (rg_in hx4 (by decide))
        have b_14 : (x4).toNatClampNeg < 8 := vp_lt n_13
        refine th_aald hx hb hK hP 4 3 (Nat.lt_of_lt_of_le (by decide) hn) (sM_4 hT) rfl n_13 dX7_firstWrong_46 ?_
        refine lv_iload hx hb dX7_firstWrong_47 (lv_at hl 0 rfl) ?_
        have n_15 : vp_in z6_7 40 := (rg_in (rn_ltu (u' := 19) (Int32.not_le.mp c_2) hz6_7 hx5 (by decide)) (by decide))
        refine th_lald hx hb hK hP (16 + (x4).toNatClampNeg) (lt_blk b_14 hn (by decide)) (Eq.trans (hLF_6.1 (16 + (x4).toNatClampNeg) (by have h9 := b_14; exact inR_out h9 (by decide)) (by omega)) (hT0.brows b_14)) n_15 dX7_firstWrong_49 ?_
        refine lv_l2i (v := Int64.toInt32 (gb (C (16 + (x4).toNatClampNeg)) (z6_7).toNatClampNeg)) hx hb dX7_firstWrong_50 rfl ?_
        refine lv_istore (lv' := [(8, .int (Int64.toInt32 (gb (C (16 + (x4).toNatClampNeg)) (z6_7).toNatClampNeg))), (7, .int z6_7), (6, .int z6_6), (0, .ref (a 0)), (1, .int x1), (2, .int x2), (3, .int x3), (4, .int x4), (5, .int x5)]) hx hb dX7_firstWrong_51 hl (by decide) rfl (fun ls hl => ?_)
        refine lv_aload_n hx hb dX7_firstWrong_53 rfl (lv_at hl 3 rfl) ?_
        refine va_get (D := D) (ci := 7) (v := .ref (a 9)) (C := RX7) (T := TX7) (N := 29) hx hb htg ig_7 hown hK hP 0 (oh_wg (Nat.lt_of_lt_of_le (by decide) hn) (sM_0 hT)) rfl 10 (by decide) (htg _ q_983) (fun _ h9 => h9) rfl dX7_firstWrong_54 ?_
        refine lv_iload hx hb dX7_firstWrong_57 (lv_at hl 0 rfl) ?_
        have n_16 : vp_in (Int64.toInt32 (gb (C (16 + (x4).toNatClampNeg)) (z6_7).toNatClampNeg)) 24 := (rg_in (rg_l2i (rnL_leu u_12.2 (rnL_lel u_12.1 (rgL_c (v := 0) (lo := 0) (hi := 0) (by decide)) (rgL_any _)) (rgL_i (rg_sub (lo := (-1)) (hi := 23) (fM_0_9 hT0) (rg_c (v := 1) (lo := 1) (hi := 1) (by decide)) (by decide)))) (by decide)) (by decide))
        have b_17 : (Int64.toInt32 (gb (C (16 + (x4).toNatClampNeg)) (z6_7).toNatClampNeg)).toNatClampNeg < 24 := vp_lt n_16
        refine th_aald hx hb hK hP 9 2 (Nat.lt_of_lt_of_le (by decide) hn) (sM_9 hT) rfl n_16 dX7_firstWrong_59 ?_
        refine lv_iconst (v := 0) hx hb dX7_firstWrong_60 (by decide) ?_
        refine th_iald hx hb hK hP (24 + (Int64.toInt32 (gb (C (16 + (x4).toNatClampNeg)) (z6_7).toNatClampNeg)).toNatClampNeg) (lt_blk b_17 hn (by decide)) (Eq.trans (hLF_6.1 (24 + (Int64.toInt32 (gb (C (16 + (x4).toNatClampNeg)) (z6_7).toNatClampNeg)).toNatClampNeg) (by have h9 := b_17; exact inR_out h9 (by decide)) (by omega)) (hT0.broad b_17).1) (rg_in (rg_c (v := 0) (lo := 0) (hi := 0) (by decide)) (by decide)) dX7_firstWrong_61 ?_
        refine lv_iload hx hb dX7_firstWrong_62 (lv_at hl 2 rfl) ?_
        refine lv_icmp_eq (tgt := 81) hx hb dX7_firstWrong_64 (by decide) (fun (c_18 : (ga (C (24 + (Int64.toInt32 (gb (C (16 + (x4).toNatClampNeg)) (z6_7).toNatClampNeg)).toNatClampNeg)) ((0 : Int32)).toNatClampNeg) = z6_6) => ?_) (fun (c_18 : ¬ ((ga (C (24 + (Int64.toInt32 (gb (C (16 + (x4).toNatClampNeg)) (z6_7).toNatClampNeg)).toNatClampNeg)) ((0 : Int32)).toNatClampNeg) = z6_6)) => ?_)
        · refine lv_iconst (v := 1) hx hb dX7_firstWrong_81 (by decide) ?_
          refine lv_goto (tgt := 86) hx hb dX7_firstWrong_82 (by decide) ?_
          refine lv_istore (lv' := [(9, .int 1), (8, .int (Int64.toInt32 (gb (C (16 + (x4).toNatClampNeg)) (z6_7).toNatClampNeg))), (7, .int z6_7), (6, .int z6_6), (0, .ref (a 0)), (1, .int x1), (2, .int x2), (3, .int x3), (4, .int x4), (5, .int x5)]) hx hb dX7_firstWrong_86 hl (by decide) rfl (fun ls hl => ?_)
          refine lv_iload hx hb dX7_firstWrong_88 (lv_at hl 0 rfl) ?_
          refine lv_if_eq (tgt := 104) hx hb dX7_firstWrong_90 (by decide) (fun c => absurd c (show ¬ ((1 : Int32) = 0) from by decide)) (fun _ => ?_)
          refine lv_aload_n hx hb dX7_firstWrong_93 rfl (lv_at hl 4 rfl) ?_
          refine lv_iload_n hx hb dX7_firstWrong_94 rfl (lv_at hl 5 rfl) ?_
          refine lv_iload_n hx hb dX7_firstWrong_95 rfl (lv_at hl 6 rfl) ?_
          refine lv_iload hx hb dX7_firstWrong_96 (lv_at hl 1 rfl) ?_
          refine tq_V (As := [.int x1, .int x2, .int (Int64.toInt32 (gb (C (16 + (x4).toNatClampNeg)) (z6_7).toNatClampNeg))]) (rest := []) (ws := (oh_W n a K6)) ⟨hx, hb, hml, hown, htg⟩ (c_X7_goesOf l D E G a K6 n hn hT x1 x2 (Int64.toInt32 (gb (C (16 + (x4).toNatClampNeg)) (z6_7).toNatClampNeg)) (rg_w hx1 (by decide)) (rg_w (rg_l2i (rnL_leu u_12.2 (rnL_lel u_12.1 (rgL_c (v := 0) (lo := 0) (hi := 0) (by decide)) (rgL_any _)) (rgL_i (rg_sub (lo := (-1)) (hi := 23) (fM_0_9 hT0) (rg_c (v := 1) (lo := 1) (hi := 1) (by decide)) (by decide)))) (by decide)) (by decide)) (oh_posU (rg_w hx1 (by decide)) (fun i hi => hLF_6.1 _ (inR_out hi (by decide)) (by omega)) hw)) (cwV 3 htg (oh_gV q_1318 q_1320 q_54 q_73 q_1321) rfl rfl rfl pdVX7_goesOf ⟨Nat.le_of_ble_eq_true rfl, Nat.le_of_ble_eq_true rfl⟩) hK hP hG hS (va_recv hK hP (ci := 7) (q0 := 0) rfl (oh_wg (Nat.lt_of_lt_of_le (by decide) hn) (sM_0 hT))) rfl hl.1 rfl (Nat.le_of_ble_eq_true rfl) dX7_firstWrong_98 ⟨Nat.le_of_ble_eq_true rfl, Nat.le_of_ble_eq_true rfl⟩ (fun r_19 hq_20 => ?_)
          refine lv_if_ne (tgt := 107) hx hb dX7_firstWrong_101 (by decide) (fun (c_21 : ¬ (r_19 = 0)) => ?_) (fun (c_21 : r_19 = 0) => ?_)
          · refine lv_aload_n hx hb dX7_firstWrong_107 rfl (lv_at hl 4 rfl) ?_
            refine va_get (D := D) (ci := 7) (v := .ref (a 9)) (C := RX7) (T := TX7) (N := 29) hx hb htg ig_7 hown hK hP 0 (oh_wg (Nat.lt_of_lt_of_le (by decide) hn) (sM_0 hT)) rfl 10 (by decide) (htg _ q_983) (fun _ h9 => h9) rfl dX7_firstWrong_108 ?_
            refine lv_iload hx hb dX7_firstWrong_111 (lv_at hl 1 rfl) ?_
            have n_22 : vp_in (Int64.toInt32 (gb (C (16 + (x4).toNatClampNeg)) (z6_7).toNatClampNeg)) 24 := (rg_in (rg_l2i (rnL_leu u_12.2 (rnL_lel u_12.1 (rgL_c (v := 0) (lo := 0) (hi := 0) (by decide)) (rgL_any _)) (rgL_i (rg_sub (lo := (-1)) (hi := 23) (fM_0_9 hT0) (rg_c (v := 1) (lo := 1) (hi := 1) (by decide)) (by decide)))) (by decide)) (by decide))
            have b_23 : (Int64.toInt32 (gb (C (16 + (x4).toNatClampNeg)) (z6_7).toNatClampNeg)).toNatClampNeg < 24 := vp_lt n_22
            refine th_aald hx hb hK hP 9 2 (Nat.lt_of_lt_of_le (by decide) hn) (sM_9 hT) rfl n_22 dX7_firstWrong_113 ?_
            refine lv_iconst (v := 0) hx hb dX7_firstWrong_114 (by decide) ?_
            refine th_iald hx hb hK hP (24 + (Int64.toInt32 (gb (C (16 + (x4).toNatClampNeg)) (z6_7).toNatClampNeg)).toNatClampNeg) (lt_blk b_23 hn (by decide)) (Eq.trans (hLF_6.1 (24 + (Int64.toInt32 (gb (C (16 + (x4).toNatClampNeg)) (z6_7).toNatClampNeg)).toNatClampNeg) (by have h9 := b_23; exact inR_out h9 (by decide)) (by omega)) (hT0.broad b_23).1) (rg_in (rg_c (v := 0) (lo := 0) (hi := 0) (by decide)) (by decide)) dX7_firstWrong_115 ?_
            refine lv_iload hx hb dX7_firstWrong_116 (lv_at hl 3 rfl) ?_
            refine lv_icmp_ne (tgt := 133) hx hb dX7_firstWrong_118 (by decide) (fun (c_24 : ¬ ((ga (C (24 + (Int64.toInt32 (gb (C (16 + (x4).toNatClampNeg)) (z6_7).toNatClampNeg)).toNatClampNeg)) ((0 : Int32)).toNatClampNeg) = z6_6)) => ?_) (fun (c_24 : (ga (C (24 + (Int64.toInt32 (gb (C (16 + (x4).toNatClampNeg)) (z6_7).toNatClampNeg)).toNatClampNeg)) ((0 : Int32)).toNatClampNeg) = z6_6) => ?_)
            · refine lv_aload_n hx hb dX7_firstWrong_133 rfl (lv_at hl 4 rfl) ?_
              refine va_get (D := D) (ci := 7) (v := .ref (a 9)) (C := RX7) (T := TX7) (N := 29) hx hb htg ig_7 hown hK hP 0 (oh_wg (Nat.lt_of_lt_of_le (by decide) hn) (sM_0 hT)) rfl 10 (by decide) (htg _ q_983) (fun _ h9 => h9) rfl dX7_firstWrong_134 ?_
              refine lv_iload hx hb dX7_firstWrong_137 (lv_at hl 1 rfl) ?_
              have n_25 : vp_in (Int64.toInt32 (gb (C (16 + (x4).toNatClampNeg)) (z6_7).toNatClampNeg)) 24 := (rg_in (rg_l2i (rnL_leu u_12.2 (rnL_lel u_12.1 (rgL_c (v := 0) (lo := 0) (hi := 0) (by decide)) (rgL_any _)) (rgL_i (rg_sub (lo := (-1)) (hi := 23) (fM_0_9 hT0) (rg_c (v := 1) (lo := 1) (hi := 1) (by decide)) (by decide)))) (by decide)) (by decide))
              have b_26 : (Int64.toInt32 (gb (C (16 + (x4).toNatClampNeg)) (z6_7).toNatClampNeg)).toNatClampNeg < 24 := vp_lt n_25
              refine th_aald hx hb hK hP 9 2 (Nat.lt_of_lt_of_le (by decide) hn) (sM_9 hT) rfl n_25 dX7_firstWrong_139 ?_
              refine lv_iconst (v := 0) hx hb dX7_firstWrong_140 (by decide) ?_
              refine th_iald hx hb hK hP (24 + (Int64.toInt32 (gb (C (16 + (x4).toNatClampNeg)) (z6_7).toNatClampNeg)).toNatClampNeg) (lt_blk b_26 hn (by decide)) (Eq.trans (hLF_6.1 (24 + (Int64.toInt32 (gb (C (16 + (x4).toNatClampNeg)) (z6_7).toNatClampNeg)).toNatClampNeg) (by have h9 := b_26; exact inR_out h9 (by decide)) (by omega)) (hT0.broad b_26).1) (rg_in (rg_c (v := 0) (lo := 0) (hi := 0) (by decide)) (by decide)) dX7_firstWrong_141 ?_
              refine lv_istore (lv' := [(6, .int (ga (C (24 + (Int64.toInt32 (gb (C (16 + (x4).toNatClampNeg)) (z6_7).toNatClampNeg)).toNatClampNeg)) ((0 : Int32)).toNatClampNeg)), (9, .int 1), (8, .int (Int64.toInt32 (gb (C (16 + (x4).toNatClampNeg)) (z6_7).toNatClampNeg))), (7, .int z6_7), (0, .ref (a 0)), (1, .int x1), (2, .int x2), (3, .int x3), (4, .int x4), (5, .int x5)]) hx hb dX7_firstWrong_142 hl (by decide) rfl (fun ls hl => ?_)
              refine lv_iinc (v := z6_7 + 1) (lv' := [(7, .int (z6_7 + 1)), (6, .int (ga (C (24 + (Int64.toInt32 (gb (C (16 + (x4).toNatClampNeg)) (z6_7).toNatClampNeg)).toNatClampNeg)) ((0 : Int32)).toNatClampNeg)), (9, .int 1), (8, .int (Int64.toInt32 (gb (C (16 + (x4).toNatClampNeg)) (z6_7).toNatClampNeg))), (0, .ref (a 0)), (1, .int x1), (2, .int x2), (3, .int x3), (4, .int x4), (5, .int x5)]) hx hb dX7_firstWrong_144 hl (k := 3) rfl (by rfl) (by decide) rfl (fun ls hl => ?_)
              refine lv_goto (tgt := 6) hx hb dX7_firstWrong_147 (by decide) ?_
              exact ih_6 _ (hd_6 ▸ mu_up 20 (rn_ltu (u' := 19) (Int32.not_le.mp c_2) hz6_7 hx5 (by decide)) (by decide)) K6 (z6_7 + 1) (ga (C (24 + (Int64.toInt32 (gb (C (16 + (x4).toNatClampNeg)) (z6_7).toNatClampNeg)).toNatClampNeg)) ((0 : Int32)).toNatClampNeg) _ _ ls rfl (rg_w (rg_add (lo := 1) (hi := 20) (rn_ltu (u' := 19) (Int32.not_le.mp c_2) hz6_7 hx5 (by decide)) (rg_c (v := 1) (lo := 1) (hi := 1) (by decide)) (by decide)) (by decide)) (rg_w (rn_eq c_18 hz6_6) (by decide)) (oh_rowsS (rg_w (lo := 0) (hi := 20) (rn_ltu (u' := 19) (Int32.not_le.mp c_2) hz6_7 hx5 (by decide)) (by decide)) (by decide) hv_6 (rgL_w (rnL_leu u_12.2 (rnL_lel u_12.1 (rgL_c (v := 0) (lo := 0) (hi := 0) (by decide)) (rgL_any _)) (rgL_i (rg_sub (lo := (-1)) (hi := 23) (fM_0_9 hT0) (rg_c (v := 1) (lo := 1) (hi := 1) (by decide)) (by decide)))) (by decide))) hT hF hLF_6 hP hD hS (lv_sub hl [0, 1, 4, 5, 6, 7, 8, 9] rfl)
            · refine lv_aload_n hx hb dX7_firstWrong_121 rfl (lv_at hl 4 rfl) ?_
              refine va_get (D := D) (ci := 7) (v := .ref (a 9)) (C := RX7) (T := TX7) (N := 29) hx hb htg ig_7 hown hK hP 0 (oh_wg (Nat.lt_of_lt_of_le (by decide) hn) (sM_0 hT)) rfl 10 (by decide) (htg _ q_983) (fun _ h9 => h9) rfl dX7_firstWrong_122 ?_
              refine lv_iload hx hb dX7_firstWrong_125 (lv_at hl 1 rfl) ?_
              have n_27 : vp_in (Int64.toInt32 (gb (C (16 + (x4).toNatClampNeg)) (z6_7).toNatClampNeg)) 24 := (rg_in (rg_l2i (rnL_leu u_12.2 (rnL_lel u_12.1 (rgL_c (v := 0) (lo := 0) (hi := 0) (by decide)) (rgL_any _)) (rgL_i (rg_sub (lo := (-1)) (hi := 23) (fM_0_9 hT0) (rg_c (v := 1) (lo := 1) (hi := 1) (by decide)) (by decide)))) (by decide)) (by decide))
              have b_28 : (Int64.toInt32 (gb (C (16 + (x4).toNatClampNeg)) (z6_7).toNatClampNeg)).toNatClampNeg < 24 := vp_lt n_27
              refine th_aald hx hb hK hP 9 2 (Nat.lt_of_lt_of_le (by decide) hn) (sM_9 hT) rfl n_27 dX7_firstWrong_127 ?_
              refine lv_iconst (v := 1) hx hb dX7_firstWrong_128 (by decide) ?_
              refine th_iald hx hb hK hP (24 + (Int64.toInt32 (gb (C (16 + (x4).toNatClampNeg)) (z6_7).toNatClampNeg)).toNatClampNeg) (lt_blk b_28 hn (by decide)) (Eq.trans (hLF_6.1 (24 + (Int64.toInt32 (gb (C (16 + (x4).toNatClampNeg)) (z6_7).toNatClampNeg)).toNatClampNeg) (by have h9 := b_28; exact inR_out h9 (by decide)) (by omega)) (hT0.broad b_28).1) (rg_in (rg_c (v := 1) (lo := 1) (hi := 1) (by decide)) (by decide)) dX7_firstWrong_129 ?_
              refine lv_goto (tgt := 142) hx hb dX7_firstWrong_130 (by decide) ?_
              refine lv_istore (lv' := [(6, .int (ga (C (24 + (Int64.toInt32 (gb (C (16 + (x4).toNatClampNeg)) (z6_7).toNatClampNeg)).toNatClampNeg)) ((1 : Int32)).toNatClampNeg)), (9, .int 1), (8, .int (Int64.toInt32 (gb (C (16 + (x4).toNatClampNeg)) (z6_7).toNatClampNeg))), (7, .int z6_7), (0, .ref (a 0)), (1, .int x1), (2, .int x2), (3, .int x3), (4, .int x4), (5, .int x5)]) hx hb dX7_firstWrong_142 hl (by decide) rfl (fun ls hl => ?_)
              refine lv_iinc (v := z6_7 + 1) (lv' := [(7, .int (z6_7 + 1)), (6, .int (ga (C (24 + (Int64.toInt32 (gb (C (16 + (x4).toNatClampNeg)) (z6_7).toNatClampNeg)).toNatClampNeg)) ((1 : Int32)).toNatClampNeg)), (9, .int 1), (8, .int (Int64.toInt32 (gb (C (16 + (x4).toNatClampNeg)) (z6_7).toNatClampNeg))), (0, .ref (a 0)), (1, .int x1), (2, .int x2), (3, .int x3), (4, .int x4), (5, .int x5)]) hx hb dX7_firstWrong_144 hl (k := 3) rfl (by rfl) (by decide) rfl (fun ls hl => ?_)
              refine lv_goto (tgt := 6) hx hb dX7_firstWrong_147 (by decide) ?_
              exact ih_6 _ (hd_6 ▸ mu_up 20 (rn_ltu (u' := 19) (Int32.not_le.mp c_2) hz6_7 hx5 (by decide)) (by decide)) K6 (z6_7 + 1) (ga (C (24 + (Int64.toInt32 (gb (C (16 + (x4).toNatClampNeg)) (z6_7).toNatClampNeg)).toNatClampNeg)) ((1 : Int32)).toNatClampNeg) _ _ ls rfl (rg_w (rg_add (lo := 1) (hi := 20) (rn_ltu (u' := 19) (Int32.not_le.mp c_2) hz6_7 hx5 (by decide)) (rg_c (v := 1) (lo := 1) (hi := 1) (by decide)) (by decide)) (by decide)) (rg_w (tA_rdc (lo := 0) (hi := 15) (hT0.broad b_28) (rg_in (rg_c (v := 1) (lo := 1) (hi := 1) (by decide)) (by decide)) (show _ = 1 by decide) (by decide)) (by decide)) (oh_rowsS (rg_w (lo := 0) (hi := 20) (rn_ltu (u' := 19) (Int32.not_le.mp c_2) hz6_7 hx5 (by decide)) (by decide)) (by decide) hv_6 (rgL_w (rnL_leu u_12.2 (rnL_lel u_12.1 (rgL_c (v := 0) (lo := 0) (hi := 0) (by decide)) (rgL_any _)) (rgL_i (rg_sub (lo := (-1)) (hi := 23) (fM_0_9 hT0) (rg_c (v := 1) (lo := 1) (hi := 1) (by decide)) (by decide)))) (by decide))) hT hF hLF_6 hP hD hS (lv_sub hl [0, 1, 4, 5, 6, 7, 8, 9] rfl)
          · refine lv_iload hx hb dX7_firstWrong_104 (lv_at hl 2 rfl) ?_
            rw [hQ]
            exact W.iret (v := z6_7) hx hb hr (fun t ht hW => ⟨⟨z6_7, K6, rfl, ⟨hT, hF, (fun h9 => absurd h9 (rg_nev (rn_ltu (u' := 19) (Int32.not_le.mp c_2) hz6_7 hx5 (by decide)) (by decide)))⟩, ⟨by rw [ht]; exact hP, hD⟩⟩, hS.F ht⟩) hS.2.2 dX7_firstWrong_106
        · refine lv_aload_n hx hb dX7_firstWrong_67 rfl (lv_at hl 3 rfl) ?_
          refine va_get (D := D) (ci := 7) (v := .ref (a 9)) (C := RX7) (T := TX7) (N := 29) hx hb htg ig_7 hown hK hP 0 (oh_wg (Nat.lt_of_lt_of_le (by decide) hn) (sM_0 hT)) rfl 10 (by decide) (htg _ q_983) (fun _ h9 => h9) rfl dX7_firstWrong_68 ?_
          refine lv_iload hx hb dX7_firstWrong_71 (lv_at hl 0 rfl) ?_
          have n_29 : vp_in (Int64.toInt32 (gb (C (16 + (x4).toNatClampNeg)) (z6_7).toNatClampNeg)) 24 := (rg_in (rg_l2i (rnL_leu u_12.2 (rnL_lel u_12.1 (rgL_c (v := 0) (lo := 0) (hi := 0) (by decide)) (rgL_any _)) (rgL_i (rg_sub (lo := (-1)) (hi := 23) (fM_0_9 hT0) (rg_c (v := 1) (lo := 1) (hi := 1) (by decide)) (by decide)))) (by decide)) (by decide))
          have b_30 : (Int64.toInt32 (gb (C (16 + (x4).toNatClampNeg)) (z6_7).toNatClampNeg)).toNatClampNeg < 24 := vp_lt n_29
          refine th_aald hx hb hK hP 9 2 (Nat.lt_of_lt_of_le (by decide) hn) (sM_9 hT) rfl n_29 dX7_firstWrong_73 ?_
          refine lv_iconst (v := 1) hx hb dX7_firstWrong_74 (by decide) ?_
          refine th_iald hx hb hK hP (24 + (Int64.toInt32 (gb (C (16 + (x4).toNatClampNeg)) (z6_7).toNatClampNeg)).toNatClampNeg) (lt_blk b_30 hn (by decide)) (Eq.trans (hLF_6.1 (24 + (Int64.toInt32 (gb (C (16 + (x4).toNatClampNeg)) (z6_7).toNatClampNeg)).toNatClampNeg) (by have h9 := b_30; exact inR_out h9 (by decide)) (by omega)) (hT0.broad b_30).1) (rg_in (rg_c (v := 1) (lo := 1) (hi := 1) (by decide)) (by decide)) dX7_firstWrong_75 ?_
          refine lv_iload hx hb dX7_firstWrong_76 (lv_at hl 2 rfl) ?_
          refine lv_icmp_ne (tgt := 85) hx hb dX7_firstWrong_78 (by decide) (fun (c_31 : ¬ ((ga (C (24 + (Int64.toInt32 (gb (C (16 + (x4).toNatClampNeg)) (z6_7).toNatClampNeg)).toNatClampNeg)) ((1 : Int32)).toNatClampNeg) = z6_6)) => ?_) (fun (c_31 : (ga (C (24 + (Int64.toInt32 (gb (C (16 + (x4).toNatClampNeg)) (z6_7).toNatClampNeg)).toNatClampNeg)) ((1 : Int32)).toNatClampNeg) = z6_6) => ?_)
          · refine lv_iconst (v := 0) hx hb dX7_firstWrong_85 (by decide) ?_
            refine lv_istore (lv' := [(9, .int 0), (8, .int (Int64.toInt32 (gb (C (16 + (x4).toNatClampNeg)) (z6_7).toNatClampNeg))), (7, .int z6_7), (6, .int z6_6), (0, .ref (a 0)), (1, .int x1), (2, .int x2), (3, .int x3), (4, .int x4), (5, .int x5)]) hx hb dX7_firstWrong_86 hl (by decide) rfl (fun ls hl => ?_)
            refine lv_iload hx hb dX7_firstWrong_88 (lv_at hl 0 rfl) ?_
            refine lv_if_eq (tgt := 104) hx hb dX7_firstWrong_90 (by decide) (fun _ => ?_) (fun c => absurd (show (0 : Int32) = 0 from by decide) c)
            refine lv_iload hx hb dX7_firstWrong_104 (lv_at hl 2 rfl) ?_
            rw [hQ]
            exact W.iret (v := z6_7) hx hb hr (fun t ht hW => ⟨⟨z6_7, K6, rfl, ⟨hT, hF, (fun h9 => absurd h9 (rg_nev (rn_ltu (u' := 19) (Int32.not_le.mp c_2) hz6_7 hx5 (by decide)) (by decide)))⟩, ⟨by rw [ht]; exact hP, hD⟩⟩, hS.F ht⟩) hS.2.2 dX7_firstWrong_106
          · refine lv_iconst (v := 1) hx hb dX7_firstWrong_81 (by decide) ?_
            refine lv_goto (tgt := 86) hx hb dX7_firstWrong_82 (by decide) ?_
            refine lv_istore (lv' := [(9, .int 1), (8, .int (Int64.toInt32 (gb (C (16 + (x4).toNatClampNeg)) (z6_7).toNatClampNeg))), (7, .int z6_7), (6, .int z6_6), (0, .ref (a 0)), (1, .int x1), (2, .int x2), (3, .int x3), (4, .int x4), (5, .int x5)]) hx hb dX7_firstWrong_86 hl (by decide) rfl (fun ls hl => ?_)
            refine lv_iload hx hb dX7_firstWrong_88 (lv_at hl 0 rfl) ?_
            refine lv_if_eq (tgt := 104) hx hb dX7_firstWrong_90 (by decide) (fun c => absurd c (show ¬ ((1 : Int32) = 0) from by decide)) (fun _ => ?_)
            refine lv_aload_n hx hb dX7_firstWrong_93 rfl (lv_at hl 4 rfl) ?_
            refine lv_iload_n hx hb dX7_firstWrong_94 rfl (lv_at hl 5 rfl) ?_
            refine lv_iload_n hx hb dX7_firstWrong_95 rfl (lv_at hl 6 rfl) ?_
            refine lv_iload hx hb dX7_firstWrong_96 (lv_at hl 1 rfl) ?_
            refine tq_V (As := [.int x1, .int x2, .int (Int64.toInt32 (gb (C (16 + (x4).toNatClampNeg)) (z6_7).toNatClampNeg))]) (rest := []) (ws := (oh_W n a K6)) ⟨hx, hb, hml, hown, htg⟩ (c_X7_goesOf l D E G a K6 n hn hT x1 x2 (Int64.toInt32 (gb (C (16 + (x4).toNatClampNeg)) (z6_7).toNatClampNeg)) (rg_w hx1 (by decide)) (rg_w (rg_l2i (rnL_leu u_12.2 (rnL_lel u_12.1 (rgL_c (v := 0) (lo := 0) (hi := 0) (by decide)) (rgL_any _)) (rgL_i (rg_sub (lo := (-1)) (hi := 23) (fM_0_9 hT0) (rg_c (v := 1) (lo := 1) (hi := 1) (by decide)) (by decide)))) (by decide)) (by decide)) (oh_posU (rg_w hx1 (by decide)) (fun i hi => hLF_6.1 _ (inR_out hi (by decide)) (by omega)) hw)) (cwV 3 htg (oh_gV q_1318 q_1320 q_54 q_73 q_1321) rfl rfl rfl pdVX7_goesOf ⟨Nat.le_of_ble_eq_true rfl, Nat.le_of_ble_eq_true rfl⟩) hK hP hG hS (va_recv hK hP (ci := 7) (q0 := 0) rfl (oh_wg (Nat.lt_of_lt_of_le (by decide) hn) (sM_0 hT))) rfl hl.1 rfl (Nat.le_of_ble_eq_true rfl) dX7_firstWrong_98 ⟨Nat.le_of_ble_eq_true rfl, Nat.le_of_ble_eq_true rfl⟩ (fun r_32 hq_33 => ?_)
            refine lv_if_ne (tgt := 107) hx hb dX7_firstWrong_101 (by decide) (fun (c_34 : ¬ (r_32 = 0)) => ?_) (fun (c_34 : r_32 = 0) => ?_)
            · refine lv_aload_n hx hb dX7_firstWrong_107 rfl (lv_at hl 4 rfl) ?_
              refine va_get (D := D) (ci := 7) (v := .ref (a 9)) (C := RX7) (T := TX7) (N := 29) hx hb htg ig_7 hown hK hP 0 (oh_wg (Nat.lt_of_lt_of_le (by decide) hn) (sM_0 hT)) rfl 10 (by decide) (htg _ q_983) (fun _ h9 => h9) rfl dX7_firstWrong_108 ?_
              refine lv_iload hx hb dX7_firstWrong_111 (lv_at hl 1 rfl) ?_
              have n_35 : vp_in (Int64.toInt32 (gb (C (16 + (x4).toNatClampNeg)) (z6_7).toNatClampNeg)) 24 := (rg_in (rg_l2i (rnL_leu u_12.2 (rnL_lel u_12.1 (rgL_c (v := 0) (lo := 0) (hi := 0) (by decide)) (rgL_any _)) (rgL_i (rg_sub (lo := (-1)) (hi := 23) (fM_0_9 hT0) (rg_c (v := 1) (lo := 1) (hi := 1) (by decide)) (by decide)))) (by decide)) (by decide))
              have b_36 : (Int64.toInt32 (gb (C (16 + (x4).toNatClampNeg)) (z6_7).toNatClampNeg)).toNatClampNeg < 24 := vp_lt n_35
              refine th_aald hx hb hK hP 9 2 (Nat.lt_of_lt_of_le (by decide) hn) (sM_9 hT) rfl n_35 dX7_firstWrong_113 ?_
              refine lv_iconst (v := 0) hx hb dX7_firstWrong_114 (by decide) ?_
              refine th_iald hx hb hK hP (24 + (Int64.toInt32 (gb (C (16 + (x4).toNatClampNeg)) (z6_7).toNatClampNeg)).toNatClampNeg) (lt_blk b_36 hn (by decide)) (Eq.trans (hLF_6.1 (24 + (Int64.toInt32 (gb (C (16 + (x4).toNatClampNeg)) (z6_7).toNatClampNeg)).toNatClampNeg) (by have h9 := b_36; exact inR_out h9 (by decide)) (by omega)) (hT0.broad b_36).1) (rg_in (rg_c (v := 0) (lo := 0) (hi := 0) (by decide)) (by decide)) dX7_firstWrong_115 ?_
              refine lv_iload hx hb dX7_firstWrong_116 (lv_at hl 3 rfl) ?_
              refine lv_icmp_ne (tgt := 133) hx hb dX7_firstWrong_118 (by decide) (fun (c_37 : ¬ ((ga (C (24 + (Int64.toInt32 (gb (C (16 + (x4).toNatClampNeg)) (z6_7).toNatClampNeg)).toNatClampNeg)) ((0 : Int32)).toNatClampNeg) = z6_6)) => ?_) (fun (c_37 : (ga (C (24 + (Int64.toInt32 (gb (C (16 + (x4).toNatClampNeg)) (z6_7).toNatClampNeg)).toNatClampNeg)) ((0 : Int32)).toNatClampNeg) = z6_6) => ?_)
              · refine lv_aload_n hx hb dX7_firstWrong_133 rfl (lv_at hl 4 rfl) ?_
                refine va_get (D := D) (ci := 7) (v := .ref (a 9)) (C := RX7) (T := TX7) (N := 29) hx hb htg ig_7 hown hK hP 0 (oh_wg (Nat.lt_of_lt_of_le (by decide) hn) (sM_0 hT)) rfl 10 (by decide) (htg _ q_983) (fun _ h9 => h9) rfl dX7_firstWrong_134 ?_
                refine lv_iload hx hb dX7_firstWrong_137 (lv_at hl 1 rfl) ?_
                have n_38 : vp_in (Int64.toInt32 (gb (C (16 + (x4).toNatClampNeg)) (z6_7).toNatClampNeg)) 24 := (rg_in (rg_l2i (rnL_leu u_12.2 (rnL_lel u_12.1 (rgL_c (v := 0) (lo := 0) (hi := 0) (by decide)) (rgL_any _)) (rgL_i (rg_sub (lo := (-1)) (hi := 23) (fM_0_9 hT0) (rg_c (v := 1) (lo := 1) (hi := 1) (by decide)) (by decide)))) (by decide)) (by decide))
                have b_39 : (Int64.toInt32 (gb (C (16 + (x4).toNatClampNeg)) (z6_7).toNatClampNeg)).toNatClampNeg < 24 := vp_lt n_38
                refine th_aald hx hb hK hP 9 2 (Nat.lt_of_lt_of_le (by decide) hn) (sM_9 hT) rfl n_38 dX7_firstWrong_139 ?_
                refine lv_iconst (v := 0) hx hb dX7_firstWrong_140 (by decide) ?_
                refine th_iald hx hb hK hP (24 + (Int64.toInt32 (gb (C (16 + (x4).toNatClampNeg)) (z6_7).toNatClampNeg)).toNatClampNeg) (lt_blk b_39 hn (by decide)) (Eq.trans (hLF_6.1 (24 + (Int64.toInt32 (gb (C (16 + (x4).toNatClampNeg)) (z6_7).toNatClampNeg)).toNatClampNeg) (by have h9 := b_39; exact inR_out h9 (by decide)) (by omega)) (hT0.broad b_39).1) (rg_in (rg_c (v := 0) (lo := 0) (hi := 0) (by decide)) (by decide)) dX7_firstWrong_141 ?_
                refine lv_istore (lv' := [(6, .int (ga (C (24 + (Int64.toInt32 (gb (C (16 + (x4).toNatClampNeg)) (z6_7).toNatClampNeg)).toNatClampNeg)) ((0 : Int32)).toNatClampNeg)), (9, .int 1), (8, .int (Int64.toInt32 (gb (C (16 + (x4).toNatClampNeg)) (z6_7).toNatClampNeg))), (7, .int z6_7), (0, .ref (a 0)), (1, .int x1), (2, .int x2), (3, .int x3), (4, .int x4), (5, .int x5)]) hx hb dX7_firstWrong_142 hl (by decide) rfl (fun ls hl => ?_)
                refine lv_iinc (v := z6_7 + 1) (lv' := [(7, .int (z6_7 + 1)), (6, .int (ga (C (24 + (Int64.toInt32 (gb (C (16 + (x4).toNatClampNeg)) (z6_7).toNatClampNeg)).toNatClampNeg)) ((0 : Int32)).toNatClampNeg)), (9, .int 1), (8, .int (Int64.toInt32 (gb (C (16 + (x4).toNatClampNeg)) (z6_7).toNatClampNeg))), (0, .ref (a 0)), (1, .int x1), (2, .int x2), (3, .int x3), (4, .int x4), (5, .int x5)]) hx hb dX7_firstWrong_144 hl (k := 3) rfl (by rfl) (by decide) rfl (fun ls hl => ?_)
                refine lv_goto (tgt := 6) hx hb dX7_firstWrong_147 (by decide) ?_
                exact ih_6 _ (hd_6 ▸ mu_up 20 (rn_ltu (u' := 19) (Int32.not_le.mp c_2) hz6_7 hx5 (by decide)) (by decide)) K6 (z6_7 + 1) (ga (C (24 + (Int64.toInt32 (gb (C (16 + (x4).toNatClampNeg)) (z6_7).toNatClampNeg)).toNatClampNeg)) ((0 : Int32)).toNatClampNeg) _ _ ls rfl (rg_w (rg_add (lo := 1) (hi := 20) (rn_ltu (u' := 19) (Int32.not_le.mp c_2) hz6_7 hx5 (by decide)) (rg_c (v := 1) (lo := 1) (hi := 1) (by decide)) (by decide)) (by decide)) (rg_w (tA_rdc (lo := 0) (hi := 15) (hT0.broad b_39) (rg_in (rg_c (v := 0) (lo := 0) (hi := 0) (by decide)) (by decide)) (show _ = 0 by decide) (by decide)) (by decide)) (oh_rowsS (rg_w (lo := 0) (hi := 20) (rn_ltu (u' := 19) (Int32.not_le.mp c_2) hz6_7 hx5 (by decide)) (by decide)) (by decide) hv_6 (rgL_w (rnL_leu u_12.2 (rnL_lel u_12.1 (rgL_c (v := 0) (lo := 0) (hi := 0) (by decide)) (rgL_any _)) (rgL_i (rg_sub (lo := (-1)) (hi := 23) (fM_0_9 hT0) (rg_c (v := 1) (lo := 1) (hi := 1) (by decide)) (by decide)))) (by decide))) hT hF hLF_6 hP hD hS (lv_sub hl [0, 1, 4, 5, 6, 7, 8, 9] rfl)
              · refine lv_aload_n hx hb dX7_firstWrong_121 rfl (lv_at hl 4 rfl) ?_
                refine va_get (D := D) (ci := 7) (v := .ref (a 9)) (C := RX7) (T := TX7) (N := 29) hx hb htg ig_7 hown hK hP 0 (oh_wg (Nat.lt_of_lt_of_le (by decide) hn) (sM_0 hT)) rfl 10 (by decide) (htg _ q_983) (fun _ h9 => h9) rfl dX7_firstWrong_122 ?_
                refine lv_iload hx hb dX7_firstWrong_125 (lv_at hl 1 rfl) ?_
                have n_40 : vp_in (Int64.toInt32 (gb (C (16 + (x4).toNatClampNeg)) (z6_7).toNatClampNeg)) 24 := (rg_in (rg_l2i (rnL_leu u_12.2 (rnL_lel u_12.1 (rgL_c (v := 0) (lo := 0) (hi := 0) (by decide)) (rgL_any _)) (rgL_i (rg_sub (lo := (-1)) (hi := 23) (fM_0_9 hT0) (rg_c (v := 1) (lo := 1) (hi := 1) (by decide)) (by decide)))) (by decide)) (by decide))
                have b_41 : (Int64.toInt32 (gb (C (16 + (x4).toNatClampNeg)) (z6_7).toNatClampNeg)).toNatClampNeg < 24 := vp_lt n_40
                refine th_aald hx hb hK hP 9 2 (Nat.lt_of_lt_of_le (by decide) hn) (sM_9 hT) rfl n_40 dX7_firstWrong_127 ?_
                refine lv_iconst (v := 1) hx hb dX7_firstWrong_128 (by decide) ?_
                refine th_iald hx hb hK hP (24 + (Int64.toInt32 (gb (C (16 + (x4).toNatClampNeg)) (z6_7).toNatClampNeg)).toNatClampNeg) (lt_blk b_41 hn (by decide)) (Eq.trans (hLF_6.1 (24 + (Int64.toInt32 (gb (C (16 + (x4).toNatClampNeg)) (z6_7).toNatClampNeg)).toNatClampNeg) (by have h9 := b_41; exact inR_out h9 (by decide)) (by omega)) (hT0.broad b_41).1) (rg_in (rg_c (v := 1) (lo := 1) (hi := 1) (by decide)) (by decide)) dX7_firstWrong_129 ?_
                refine lv_goto (tgt := 142) hx hb dX7_firstWrong_130 (by decide) ?_
                refine lv_istore (lv' := [(6, .int (ga (C (24 + (Int64.toInt32 (gb (C (16 + (x4).toNatClampNeg)) (z6_7).toNatClampNeg)).toNatClampNeg)) ((1 : Int32)).toNatClampNeg)), (9, .int 1), (8, .int (Int64.toInt32 (gb (C (16 + (x4).toNatClampNeg)) (z6_7).toNatClampNeg))), (7, .int z6_7), (0, .ref (a 0)), (1, .int x1), (2, .int x2), (3, .int x3), (4, .int x4), (5, .int x5)]) hx hb dX7_firstWrong_142 hl (by decide) rfl (fun ls hl => ?_)
                refine lv_iinc (v := z6_7 + 1) (lv' := [(7, .int (z6_7 + 1)), (6, .int (ga (C (24 + (Int64.toInt32 (gb (C (16 + (x4).toNatClampNeg)) (z6_7).toNatClampNeg)).toNatClampNeg)) ((1 : Int32)).toNatClampNeg)), (9, .int 1), (8, .int (Int64.toInt32 (gb (C (16 + (x4).toNatClampNeg)) (z6_7).toNatClampNeg))), (0, .ref (a 0)), (1, .int x1), (2, .int x2), (3, .int x3), (4, .int x4), (5, .int x5)]) hx hb dX7_firstWrong_144 hl (k := 3) rfl (by rfl) (by decide) rfl (fun ls hl => ?_)
                refine lv_goto (tgt := 6) hx hb dX7_firstWrong_147 (by decide) ?_
                exact ih_6 _ (hd_6 ▸ mu_up 20 (rn_ltu (u' := 19) (Int32.not_le.mp c_2) hz6_7 hx5 (by decide)) (by decide)) K6 (z6_7 + 1) (ga (C (24 + (Int64.toInt32 (gb (C (16 + (x4).toNatClampNeg)) (z6_7).toNatClampNeg)).toNatClampNeg)) ((1 : Int32)).toNatClampNeg) _ _ ls rfl (rg_w (rg_add (lo := 1) (hi := 20) (rn_ltu (u' := 19) (Int32.not_le.mp c_2) hz6_7 hx5 (by decide)) (rg_c (v := 1) (lo := 1) (hi := 1) (by decide)) (by decide)) (by decide)) (rg_w (rn_eq c_31 (rn_eq c_37.symm (tA_rdc (lo := 0) (hi := 15) (hT0.broad b_36) (rg_in (rg_c (v := 0) (lo := 0) (hi := 0) (by decide)) (by decide)) (show _ = 0 by decide) (by decide)))) (by decide)) (oh_rowsS (rg_w (lo := 0) (hi := 20) (rn_ltu (u' := 19) (Int32.not_le.mp c_2) hz6_7 hx5 (by decide)) (by decide)) (by decide) hv_6 (rgL_w (rnL_leu u_12.2 (rnL_lel u_12.1 (rgL_c (v := 0) (lo := 0) (hi := 0) (by decide)) (rgL_any _)) (rgL_i (rg_sub (lo := (-1)) (hi := 23) (fM_0_9 hT0) (rg_c (v := 1) (lo := 1) (hi := 1) (by decide)) (by decide)))) (by decide))) hT hF hLF_6 hP hD hS (lv_sub hl [0, 1, 4, 5, 6, 7, 8, 9] rfl)
            · refine lv_iload hx hb dX7_firstWrong_104 (lv_at hl 2 rfl) ?_
              rw [hQ]
              exact W.iret (v := z6_7) hx hb hr (fun t ht hW => ⟨⟨z6_7, K6, rfl, ⟨hT, hF, (fun h9 => absurd h9 (rg_nev (rn_ltu (u' := 19) (Int32.not_le.mp c_2) hz6_7 hx5 (by decide)) (by decide)))⟩, ⟨by rw [ht]; exact hP, hD⟩⟩, hS.F ht⟩) hS.2.2 dX7_firstWrong_106
      · have u_42 := hq_10.2.2 c_11
        refine lv_iload hx hb dX7_firstWrong_37 (lv_at hl 0 rfl) ?_
        rw [hQ]
        exact W.iret (v := z6_7) hx hb hr (fun t ht hW => ⟨⟨z6_7, K6, rfl, ⟨hT, hF, (fun h9 => absurd h9 (rg_nev (rn_ltu (u' := 19) (Int32.not_le.mp c_2) hz6_7 hx5 (by decide)) (by decide)))⟩, ⟨by rw [ht]; exact hP, hD⟩⟩, hS.F ht⟩) hS.2.2 dX7_firstWrong_39
  exact L_6 _ C 0 x3 _ _ ls rfl (rg_w (rg_c (v := 0) (lo := 0) (hi := 0) (by decide)) (by decide)) (rg_w hx3 (by decide)) oh_rows0 hT hF fr_rf hP hD hS (lv_sub hl [0, 1, 2, 3, 4, 5, 6, 7] rfl)

set_option maxHeartbeats 4000000 in
set_option maxRecDepth 100000 in
theorem c_X7_noWay (l : Launch) (D : va_G) (E : Nat → ClassId) (G : Nat → Nat) (sz : Nat) (a : Nat → Nat) (C : Nat → va_E) (n : Nat) (hn : 74 ≤ n) (hT : TyM a E C) (x1 : Int32) (x2 : Int32) (x3 : Int32) (x4 : Int32) (x5 : Int32) (hR : RelM C) : Met l yX7_noWay (oh_w yX7_noWay cX7_noWay 6 (some .int)) ({ frames := 3, cells := 0, slots := 0, locals := 68 }) (oh_Pm D E G [.ref (a 0), .int x1, .int x2, .int x3, .int x4, .int x5] (oh_W n a C) sz) (va_Qi (fun r (u : Nat → va_E) => TyM a E u ∧ fr [(8, 9)] [] C u ∧ (RelM u) ∧ (r = 0 → rg x1 0 4 ∧ rg x3 0 15 ∧ rg x4 0 7 ∧ rg x5 0 20 ∧ (oh_pos C x1))) (oh_B D (va_A (oh_W n a C) sz) (fun u => oh_W n a u)) (va_A (oh_W n a C) sz)) 0 0 (va_A (oh_W n a C) sz) := by
  refine Met.ofW (cc := cX7_noWay) (maxL := 6) (ret := (some .int)) (by decide) rfl ?_
  intro p e s m args below meth c s₁ B hml hv
  obtain ⟨rfl, hsz, hP, hK, hD0, hG⟩ := hv
  have hx := B.exec
  have hb := B.bytes
  have hr := B.returns
  have hts := atoms_spec (ws := (oh_w yX7_noWay cX7_noWay 6 (some .int))) B.pre
  have htg : ∀ w ∈ oh_t, w.before _ s = true := fun w h => hts w (List.mem_cons_of_mem _ h)
  have hown : s.vm.findClass RX7 = some m.cls := findClass_of_methodNamed B.named
  have hlocks := B.notSynchronized
  have hT0 := hT
  subst hsz
  have hD := hD0.self (sz := s.heap.size)
  generalize hAe : va_A (oh_W n a C) s.heap.size = A at hD hG ⊢
  have hA : ∀ q : Nat, s.heap.size ≤ q → A q := fun q h => by rw [← hAe]; exact Or.inr h
  have hS : va_S A s.heap s.heap [] := va_S.rf
  have hF : fr [(8, 9)] [] C C := fr_rf
  have hl := lv_entry ([.ref (a 0), .int x1, .int x2, .int x3, .int x4, .int x5]) (n := 6) (Nat.le_of_ble_eq_true rfl)
  rw [lg_entry_eq]
  generalize (lg_sl ([.ref (a 0), .int x1, .int x2, .int x3, .int x4, .int x5]) ++ List.replicate (6 - (lg_sl ([.ref (a 0), .int x1, .int x2, .int x3, .int x4, .int x5])).length) Slot.unset).toArray = ls at hl ⊢
  have hl : lv_has ls 6 [(0, .ref (a 0)), (1, .int x1), (2, .int x2), (3, .int x3), (4, .int x4), (5, .int x5)] := hl
  refine oh_genQ (fun Q hQ => ?_)
  refine lv_aload_n hx hb dX7_noWay_0 rfl (lv_at hl 0 rfl) ?_
  refine lv_iload_n hx hb dX7_noWay_1 rfl (lv_at hl 1 rfl) ?_
  refine lv_iload_n hx hb dX7_noWay_2 rfl (lv_at hl 2 rfl) ?_
  refine tq_V (As := [.int x1, .int x2]) (rest := []) (ws := (oh_W n a C)) ⟨hx, hb, hml, hown, htg⟩ (c_X7_isPack l D E G a C n hn hT x1 x2 hR.1) (cwV 2 htg (oh_gV q_1290 q_1292 q_50 q_73 q_1293) rfl rfl rfl pdVX7_isPack ⟨Nat.le_of_ble_eq_true rfl, Nat.le_of_ble_eq_true rfl⟩) hK hP hG hS (va_recv hK hP (ci := 7) (q0 := 0) rfl (oh_wg (Nat.lt_of_lt_of_le (by decide) hn) (sM_0 hT))) rfl hl.1 rfl (Nat.le_of_ble_eq_true rfl) dX7_noWay_3 ⟨Nat.le_of_ble_eq_true rfl, Nat.le_of_ble_eq_true rfl⟩ (fun r_1 hq_2 => ?_)
  refine lv_if_eq (tgt := 42) hx hb dX7_noWay_6 (by decide) (fun (c_3 : r_1 = 0) => ?_) (fun (c_3 : ¬ (r_1 = 0)) => ?_)
  · refine lv_aload_n hx hb dX7_noWay_42 rfl (lv_at hl 0 rfl) ?_
    refine lv_bipush (v := (-2)) hx hb dX7_noWay_43 (by decide) ?_
    refine tm_V (As := [.int (-2)]) (rest := []) ⟨hx, hb, hml, hown, htg⟩ (c_X7_refuse l D E G _ a C n hn hT ((-2) : Int32) (rg_w (rg_c (v := (-2)) (lo := (-2)) (hi := (-2)) (by decide)) (by decide))) (cwV 1 htg (oh_gV q_1071 q_1073 q_29 q_73 q_1074) rfl rfl rfl pdVX7_refuse ⟨Nat.le_of_ble_eq_true rfl, Nat.le_of_ble_eq_true rfl⟩) hK hP hD hG hS hA (va_recv hK hP (ci := 7) (q0 := 0) rfl (oh_wg (Nat.lt_of_lt_of_le (by decide) hn) (sM_0 hT))) rfl hl.1 rfl (Nat.le_of_ble_eq_true rfl) dX7_noWay_45 ⟨Nat.le_of_ble_eq_true rfl, Nat.le_of_ble_eq_true rfl⟩ (fun r_4 C_5 H locs hq_6 hP hD hS => ?_)
    obtain ⟨hT, f_7, hq_6⟩ := hq_6
    have hF := fr_tr hF f_7 (by decide) (by decide)
    refine W.widen (k := 0) (n := 0) (Nat.le_refl _) (Nat.le_refl _) ?_
    have t_8 := hT
    rw [hQ]
    exact W.iret (v := r_4) hx hb hr (fun t ht hW => ⟨⟨r_4, C_5, rfl, ⟨hT, hF, ⟨⟨hR.1.fr hF (by decide), hR.2.fr hF (by decide)⟩, (fun h9 => absurd (Eq.trans h9.symm hq_6) (by decide))⟩⟩, ⟨by rw [ht]; exact hP, hD⟩⟩, hS.F ht⟩) hS.2.2 dX7_noWay_48
  · have u_9 := hq_2.2 c_3
    refine lv_iload_n hx hb dX7_noWay_9 rfl (lv_at hl 3 rfl) ?_
    refine tq_S (As := [.int x3]) (rest := []) (ws := []) ⟨hx, hb, hml, hown, htg⟩ (c_X7_isPlace l D E G x3) (va_cwS 1 htg (oh_gS q_1130 q_1131 q_73 q_1132) rfl rfl rfl pdX7_isPlace ⟨Nat.le_of_ble_eq_true rfl, Nat.le_of_ble_eq_true rfl⟩) hK va_nil hG hS rfl hl.1 rfl (Nat.le_of_ble_eq_true rfl) dX7_noWay_10 ⟨Nat.le_of_ble_eq_true rfl, Nat.le_of_ble_eq_true rfl⟩ (fun r_10 hq_11 => ?_)
    refine lv_if_eq (tgt := 42) hx hb dX7_noWay_13 (by decide) (fun (c_12 : r_10 = 0) => ?_) (fun (c_12 : ¬ (r_10 = 0)) => ?_)
    · refine lv_aload_n hx hb dX7_noWay_42 rfl (lv_at hl 0 rfl) ?_
      refine lv_bipush (v := (-2)) hx hb dX7_noWay_43 (by decide) ?_
      refine tm_V (As := [.int (-2)]) (rest := []) ⟨hx, hb, hml, hown, htg⟩ (c_X7_refuse l D E G _ a C n hn hT ((-2) : Int32) (rg_w (rg_c (v := (-2)) (lo := (-2)) (hi := (-2)) (by decide)) (by decide))) (cwV 1 htg (oh_gV q_1071 q_1073 q_29 q_73 q_1074) rfl rfl rfl pdVX7_refuse ⟨Nat.le_of_ble_eq_true rfl, Nat.le_of_ble_eq_true rfl⟩) hK hP hD hG hS hA (va_recv hK hP (ci := 7) (q0 := 0) rfl (oh_wg (Nat.lt_of_lt_of_le (by decide) hn) (sM_0 hT))) rfl hl.1 rfl (Nat.le_of_ble_eq_true rfl) dX7_noWay_45 ⟨Nat.le_of_ble_eq_true rfl, Nat.le_of_ble_eq_true rfl⟩ (fun r_13 C_14 H locs hq_15 hP hD hS => ?_)
      obtain ⟨hT, f_16, hq_15⟩ := hq_15
      have hF := fr_tr hF f_16 (by decide) (by decide)
      refine W.widen (k := 0) (n := 0) (Nat.le_refl _) (Nat.le_refl _) ?_
      have t_17 := hT
      rw [hQ]
      exact W.iret (v := r_13) hx hb hr (fun t ht hW => ⟨⟨r_13, C_14, rfl, ⟨hT, hF, ⟨⟨hR.1.fr hF (by decide), hR.2.fr hF (by decide)⟩, (fun h9 => absurd (Eq.trans h9.symm hq_15) (by decide))⟩⟩, ⟨by rw [ht]; exact hP, hD⟩⟩, hS.F ht⟩) hS.2.2 dX7_noWay_48
    · have u_18 := hq_11.2 c_12
      refine lv_iload hx hb dX7_noWay_16 (lv_at hl 4 rfl) ?_
      refine lv_i2l (v := Int32.toInt64 x4) hx hb dX7_noWay_18 (by rfl) ?_
      refine lv_lconst (v := 0) hx hb dX7_noWay_19 (by decide) ?_
      refine lv_ldc2 (v := 7) hx hb hown (htg _ q_1065) dX7_noWay_20 ?_
      refine tq_S (As := [.long (Int32.toInt64 x4), .long 0, .long 7]) (rest := []) (ws := []) ⟨hx, hb, hml, hown, htg⟩ (c_X7_in l D E G (Int32.toInt64 x4) (0 : Int64) (7 : Int64)) (va_cwS 3 htg (oh_gS q_1066 q_1067 q_73 q_1068) rfl rfl rfl pdX7_in ⟨Nat.le_of_ble_eq_true rfl, Nat.le_of_ble_eq_true rfl⟩) hK va_nil hG hS rfl hl.1 rfl (Nat.le_of_ble_eq_true rfl) dX7_noWay_23 ⟨Nat.le_of_ble_eq_true rfl, Nat.le_of_ble_eq_true rfl⟩ (fun r_19 hq_20 => ?_)
      refine lv_if_eq (tgt := 42) hx hb dX7_noWay_26 (by decide) (fun (c_21 : r_19 = 0) => ?_) (fun (c_21 : ¬ (r_19 = 0)) => ?_)
      · have u_22 := hq_20.2.2 c_21
        refine lv_aload_n hx hb dX7_noWay_42 rfl (lv_at hl 0 rfl) ?_
        refine lv_bipush (v := (-2)) hx hb dX7_noWay_43 (by decide) ?_
        refine tm_V (As := [.int (-2)]) (rest := []) ⟨hx, hb, hml, hown, htg⟩ (c_X7_refuse l D E G _ a C n hn hT ((-2) : Int32) (rg_w (rg_c (v := (-2)) (lo := (-2)) (hi := (-2)) (by decide)) (by decide))) (cwV 1 htg (oh_gV q_1071 q_1073 q_29 q_73 q_1074) rfl rfl rfl pdVX7_refuse ⟨Nat.le_of_ble_eq_true rfl, Nat.le_of_ble_eq_true rfl⟩) hK hP hD hG hS hA (va_recv hK hP (ci := 7) (q0 := 0) rfl (oh_wg (Nat.lt_of_lt_of_le (by decide) hn) (sM_0 hT))) rfl hl.1 rfl (Nat.le_of_ble_eq_true rfl) dX7_noWay_45 ⟨Nat.le_of_ble_eq_true rfl, Nat.le_of_ble_eq_true rfl⟩ (fun r_23 C_24 H locs hq_25 hP hD hS => ?_)
        obtain ⟨hT, f_26, hq_25⟩ := hq_25
        have hF := fr_tr hF f_26 (by decide) (by decide)
        refine W.widen (k := 0) (n := 0) (Nat.le_refl _) (Nat.le_refl _) ?_
        have t_27 := hT
        rw [hQ]
        exact W.iret (v := r_23) hx hb hr (fun t ht hW => ⟨⟨r_23, C_24, rfl, ⟨hT, hF, ⟨⟨hR.1.fr hF (by decide), hR.2.fr hF (by decide)⟩, (fun h9 => absurd (Eq.trans h9.symm hq_25) (by decide))⟩⟩, ⟨by rw [ht]; exact hP, hD⟩⟩, hS.F ht⟩) hS.2.2 dX7_noWay_48
      · have u_28 := hq_20.2.1 c_21
        refine lv_iload hx hb dX7_noWay_29 (lv_at hl 5 rfl) ?_
        refine lv_i2l (v := Int32.toInt64 x5) hx hb dX7_noWay_31 (by rfl) ?_
        refine lv_lconst (v := 0) hx hb dX7_noWay_32 (by decide) ?_
        refine lv_ldc2 (v := 20) hx hb hown (htg _ q_1346) dX7_noWay_33 ?_
        refine tq_S (As := [.long (Int32.toInt64 x5), .long 0, .long 20]) (rest := []) (ws := []) ⟨hx, hb, hml, hown, htg⟩ (c_X7_in l D E G (Int32.toInt64 x5) (0 : Int64) (20 : Int64)) (va_cwS 3 htg (oh_gS q_1066 q_1067 q_73 q_1068) rfl rfl rfl pdX7_in ⟨Nat.le_of_ble_eq_true rfl, Nat.le_of_ble_eq_true rfl⟩) hK va_nil hG hS rfl hl.1 rfl (Nat.le_of_ble_eq_true rfl) dX7_noWay_36 ⟨Nat.le_of_ble_eq_true rfl, Nat.le_of_ble_eq_true rfl⟩ (fun r_29 hq_30 => ?_)
        refine lv_if_ne (tgt := 49) hx hb dX7_noWay_39 (by decide) (fun (c_31 : ¬ (r_29 = 0)) => ?_) (fun (c_31 : r_29 = 0) => ?_)
        · have u_32 := hq_30.2.1 c_31
          refine lv_aload_n hx hb dX7_noWay_49 rfl (lv_at hl 0 rfl) ?_
          refine va_get (D := D) (ci := 7) (v := .ref (a 1)) (C := RX7) (T := TX7) (N := 29) hx hb htg ig_7 hown hK hP 0 (oh_wg (Nat.lt_of_lt_of_le (by decide) hn) (sM_0 hT)) rfl 0 (by decide) (htg _ q_973) (fun _ h9 => h9) rfl dX7_noWay_50 ?_
          refine lv_iload hx hb dX7_noWay_53 (lv_at hl 4 rfl) ?_
          have n_33 : vp_in x4 8 := (rg_in (rg_il (rgL_i (rg_il (rnL_leu u_28.2 (rnL_lel u_28.1 (rgL_c (v := 0) (lo := 0) (hi := 0) (by decide)) (rgL_i (rg_any _))) (rgL_c (v := 7) (lo := 7) (hi := 7) (by decide)))))) (by decide))
          refine th_iald hx hb hK hP 1 (Nat.lt_of_lt_of_le (by decide) hn) (sM_1 hT) n_33 dX7_noWay_55 ?_
          refine lv_iconst (v := 2) hx hb dX7_noWay_56 (by decide) ?_
          refine lv_icmp_ne (tgt := 67) hx hb dX7_noWay_57 (by decide) (fun (c_34 : ¬ ((ga (C 1) (x4).toNatClampNeg) = 2)) => ?_) (fun (c_34 : (ga (C 1) (x4).toNatClampNeg) = 2) => ?_)
          · refine lv_aload_n hx hb dX7_noWay_67 rfl (lv_at hl 0 rfl) ?_
            refine va_get (D := D) (ci := 7) (v := .ref (a 1)) (C := RX7) (T := TX7) (N := 29) hx hb htg ig_7 hown hK hP 0 (oh_wg (Nat.lt_of_lt_of_le (by decide) hn) (sM_0 hT)) rfl 0 (by decide) (htg _ q_973) (fun _ h9 => h9) rfl dX7_noWay_68 ?_
            refine lv_iload hx hb dX7_noWay_71 (lv_at hl 4 rfl) ?_
            have n_35 : vp_in x4 8 := (rg_in (rg_il (rgL_i (rg_il (rnL_leu u_28.2 (rnL_lel u_28.1 (rgL_c (v := 0) (lo := 0) (hi := 0) (by decide)) (rgL_i (rg_any _))) (rgL_c (v := 7) (lo := 7) (hi := 7) (by decide)))))) (by decide))
            refine th_iald hx hb hK hP 1 (Nat.lt_of_lt_of_le (by decide) hn) (sM_1 hT) n_35 dX7_noWay_73 ?_
            refine lv_if_ne (tgt := 84) hx hb dX7_noWay_74 (by decide) (fun (c_36 : ¬ ((ga (C 1) (x4).toNatClampNeg) = 0)) => ?_) (fun (c_36 : (ga (C 1) (x4).toNatClampNeg) = 0) => ?_)
            · refine lv_aload_n hx hb dX7_noWay_84 rfl (lv_at hl 0 rfl) ?_
              refine va_get (D := D) (ci := 7) (v := .ref (a 3)) (C := RX7) (T := TX7) (N := 29) hx hb htg ig_7 hown hK hP 0 (oh_wg (Nat.lt_of_lt_of_le (by decide) hn) (sM_0 hT)) rfl 2 (by decide) (htg _ q_975) (fun _ h9 => h9) rfl dX7_noWay_85 ?_
              refine lv_iload hx hb dX7_noWay_88 (lv_at hl 4 rfl) ?_
              have n_37 : vp_in x4 8 := (rg_in (rg_il (rgL_i (rg_il (rnL_leu u_28.2 (rnL_lel u_28.1 (rgL_c (v := 0) (lo := 0) (hi := 0) (by decide)) (rgL_i (rg_any _))) (rgL_c (v := 7) (lo := 7) (hi := 7) (by decide)))))) (by decide))
              refine th_iald hx hb hK hP 3 (Nat.lt_of_lt_of_le (by decide) hn) (sM_3 hT) n_37 dX7_noWay_90 ?_
              refine lv_iload hx hb dX7_noWay_91 (lv_at hl 5 rfl) ?_
              refine lv_icmp_ge (tgt := 105) hx hb dX7_noWay_93 (by decide) (fun (c_38 : x5 ≤ (ga (C 3) (x4).toNatClampNeg)) => ?_) (fun (c_38 : ¬ (x5 ≤ (ga (C 3) (x4).toNatClampNeg))) => ?_)
              · refine lv_iconst (v := 0) hx hb dX7_noWay_105 (by decide) ?_
                rw [hQ]
                exact W.iret (v := 0) hx hb hr (fun t ht hW => ⟨⟨0, C, rfl, ⟨hT, hF, ⟨hR, (fun _ => ⟨(rg_w u_9.1 (by decide)), (rg_w u_18 (by decide)), (rg_w (rg_il (rgL_i (rg_il (rnL_leu u_28.2 (rnL_lel u_28.1 (rgL_c (v := 0) (lo := 0) (hi := 0) (by decide)) (rgL_i (rg_any _))) (rgL_c (v := 7) (lo := 7) (hi := 7) (by decide)))))) (by decide)), (rg_w (rg_il (rgL_i (rg_il (rnL_leu u_32.2 (rnL_lel u_32.1 (rgL_c (v := 0) (lo := 0) (hi := 0) (by decide)) (rgL_i (rg_any _))) (rgL_c (v := 20) (lo := 20) (hi := 20) (by decide)))))) (by decide)), u_9.2.1⟩)⟩⟩, ⟨by rw [ht]; exact hP, hD⟩⟩, hS.F ht⟩) hS.2.2 dX7_noWay_106
              · refine lv_aload_n hx hb dX7_noWay_96 rfl (lv_at hl 0 rfl) ?_
                refine lv_bipush (v := (-2)) hx hb dX7_noWay_97 (by decide) ?_
                refine tm_V (As := [.int (-2)]) (rest := []) ⟨hx, hb, hml, hown, htg⟩ (c_X7_refuse l D E G _ a C n hn hT ((-2) : Int32) (rg_w (rg_c (v := (-2)) (lo := (-2)) (hi := (-2)) (by decide)) (by decide))) (cwV 1 htg (oh_gV q_1071 q_1073 q_29 q_73 q_1074) rfl rfl rfl pdVX7_refuse ⟨Nat.le_of_ble_eq_true rfl, Nat.le_of_ble_eq_true rfl⟩) hK hP hD hG hS hA (va_recv hK hP (ci := 7) (q0 := 0) rfl (oh_wg (Nat.lt_of_lt_of_le (by decide) hn) (sM_0 hT))) rfl hl.1 rfl (Nat.le_of_ble_eq_true rfl) dX7_noWay_99 ⟨Nat.le_of_ble_eq_true rfl, Nat.le_of_ble_eq_true rfl⟩ (fun r_39 C_40 H locs hq_41 hP hD hS => ?_)
                obtain ⟨hT, f_42, hq_41⟩ := hq_41
                have hF := fr_tr hF f_42 (by decide) (by decide)
                refine W.widen (k := 0) (n := 0) (Nat.le_refl _) (Nat.le_refl _) ?_
                have t_43 := hT
                refine lv_goto (tgt := 106) hx hb dX7_noWay_102 (by decide) ?_
                rw [hQ]
                exact W.iret (v := r_39) hx hb hr (fun t ht hW => ⟨⟨r_39, C_40, rfl, ⟨hT, hF, ⟨⟨hR.1.fr hF (by decide), hR.2.fr hF (by decide)⟩, (fun h9 => absurd (Eq.trans h9.symm hq_41) (by decide))⟩⟩, ⟨by rw [ht]; exact hP, hD⟩⟩, hS.F ht⟩) hS.2.2 dX7_noWay_106
            · refine lv_aload_n hx hb dX7_noWay_77 rfl (lv_at hl 0 rfl) ?_
              refine lv_bipush (v := (-4)) hx hb dX7_noWay_78 (by decide) ?_
              refine tm_V (As := [.int (-4)]) (rest := []) ⟨hx, hb, hml, hown, htg⟩ (c_X7_refuse l D E G _ a C n hn hT ((-4) : Int32) (rg_w (rg_c (v := (-4)) (lo := (-4)) (hi := (-4)) (by decide)) (by decide))) (cwV 1 htg (oh_gV q_1071 q_1073 q_29 q_73 q_1074) rfl rfl rfl pdVX7_refuse ⟨Nat.le_of_ble_eq_true rfl, Nat.le_of_ble_eq_true rfl⟩) hK hP hD hG hS hA (va_recv hK hP (ci := 7) (q0 := 0) rfl (oh_wg (Nat.lt_of_lt_of_le (by decide) hn) (sM_0 hT))) rfl hl.1 rfl (Nat.le_of_ble_eq_true rfl) dX7_noWay_80 ⟨Nat.le_of_ble_eq_true rfl, Nat.le_of_ble_eq_true rfl⟩ (fun r_44 C_45 H locs hq_46 hP hD hS => ?_)
              obtain ⟨hT, f_47, hq_46⟩ := hq_46
              have hF := fr_tr hF f_47 (by decide) (by decide)
              refine W.widen (k := 0) (n := 0) (Nat.le_refl _) (Nat.le_refl _) ?_
              have t_48 := hT
              rw [hQ]
              exact W.iret (v := r_44) hx hb hr (fun t ht hW => ⟨⟨r_44, C_45, rfl, ⟨hT, hF, ⟨⟨hR.1.fr hF (by decide), hR.2.fr hF (by decide)⟩, (fun h9 => absurd (Eq.trans h9.symm hq_46) (by decide))⟩⟩, ⟨by rw [ht]; exact hP, hD⟩⟩, hS.F ht⟩) hS.2.2 dX7_noWay_83
          · refine lv_aload_n hx hb dX7_noWay_60 rfl (lv_at hl 0 rfl) ?_
            refine lv_bipush (v := (-3)) hx hb dX7_noWay_61 (by decide) ?_
            refine tm_V (As := [.int (-3)]) (rest := []) ⟨hx, hb, hml, hown, htg⟩ (c_X7_refuse l D E G _ a C n hn hT ((-3) : Int32) (rg_w (rg_c (v := (-3)) (lo := (-3)) (hi := (-3)) (by decide)) (by decide))) (cwV 1 htg (oh_gV q_1071 q_1073 q_29 q_73 q_1074) rfl rfl rfl pdVX7_refuse ⟨Nat.le_of_ble_eq_true rfl, Nat.le_of_ble_eq_true rfl⟩) hK hP hD hG hS hA (va_recv hK hP (ci := 7) (q0 := 0) rfl (oh_wg (Nat.lt_of_lt_of_le (by decide) hn) (sM_0 hT))) rfl hl.1 rfl (Nat.le_of_ble_eq_true rfl) dX7_noWay_63 ⟨Nat.le_of_ble_eq_true rfl, Nat.le_of_ble_eq_true rfl⟩ (fun r_49 C_50 H locs hq_51 hP hD hS => ?_)
            obtain ⟨hT, f_52, hq_51⟩ := hq_51
            have hF := fr_tr hF f_52 (by decide) (by decide)
            refine W.widen (k := 0) (n := 0) (Nat.le_refl _) (Nat.le_refl _) ?_
            have t_53 := hT
            rw [hQ]
            exact W.iret (v := r_49) hx hb hr (fun t ht hW => ⟨⟨r_49, C_50, rfl, ⟨hT, hF, ⟨⟨hR.1.fr hF (by decide), hR.2.fr hF (by decide)⟩, (fun h9 => absurd (Eq.trans h9.symm hq_51) (by decide))⟩⟩, ⟨by rw [ht]; exact hP, hD⟩⟩, hS.F ht⟩) hS.2.2 dX7_noWay_66
        · have u_54 := hq_30.2.2 c_31
          refine lv_aload_n hx hb dX7_noWay_42 rfl (lv_at hl 0 rfl) ?_
          refine lv_bipush (v := (-2)) hx hb dX7_noWay_43 (by decide) ?_
          refine tm_V (As := [.int (-2)]) (rest := []) ⟨hx, hb, hml, hown, htg⟩ (c_X7_refuse l D E G _ a C n hn hT ((-2) : Int32) (rg_w (rg_c (v := (-2)) (lo := (-2)) (hi := (-2)) (by decide)) (by decide))) (cwV 1 htg (oh_gV q_1071 q_1073 q_29 q_73 q_1074) rfl rfl rfl pdVX7_refuse ⟨Nat.le_of_ble_eq_true rfl, Nat.le_of_ble_eq_true rfl⟩) hK hP hD hG hS hA (va_recv hK hP (ci := 7) (q0 := 0) rfl (oh_wg (Nat.lt_of_lt_of_le (by decide) hn) (sM_0 hT))) rfl hl.1 rfl (Nat.le_of_ble_eq_true rfl) dX7_noWay_45 ⟨Nat.le_of_ble_eq_true rfl, Nat.le_of_ble_eq_true rfl⟩ (fun r_55 C_56 H locs hq_57 hP hD hS => ?_)
          obtain ⟨hT, f_58, hq_57⟩ := hq_57
          have hF := fr_tr hF f_58 (by decide) (by decide)
          refine W.widen (k := 0) (n := 0) (Nat.le_refl _) (Nat.le_refl _) ?_
          have t_59 := hT
          rw [hQ]
          exact W.iret (v := r_55) hx hb hr (fun t ht hW => ⟨⟨r_55, C_56, rfl, ⟨hT, hF, ⟨⟨hR.1.fr hF (by decide), hR.2.fr hF (by decide)⟩, (fun h9 => absurd (Eq.trans h9.symm hq_57) (by decide))⟩⟩, ⟨by rw [ht]; exact hP, hD⟩⟩, hS.F ht⟩) hS.2.2 dX7_noWay_48

set_option maxHeartbeats 4000000 in
set_option maxRecDepth 100000 in
theorem c_X7_judge (l : Launch) (D : va_G) (E : Nat → ClassId) (G : Nat → Nat) (sz : Nat) (a : Nat → Nat) (C : Nat → va_E) (n : Nat) (hn : 74 ≤ n) (hT : TyM a E C) (x1 : Int32) (x2 : Int32) (x3 : Int32) (x4 : Int32) (x5 : Int32) (hR : RelM C) : Met l yX7_judge (oh_w yX7_judge cX7_judge 7 (some .int)) ({ frames := 5, cells := 0, slots := 0, locals := 126 }) (oh_Pm D E G [.ref (a 0), .int x1, .int x2, .int x3, .int x4, .int x5] (oh_W n a C) sz) (va_Qi (fun r (u : Nat → va_E) => TyM a E u ∧ fr [(8, 9)] [28] C u ∧ (RelM u)) (oh_B D (va_A (oh_W n a C) sz) (fun u => oh_W n a u)) (va_A (oh_W n a C) sz)) 0 0 (va_A (oh_W n a C) sz) := by
  refine Met.ofW (cc := cX7_judge) (maxL := 7) (ret := (some .int)) (by decide) rfl ?_
  intro p e s m args below meth c s₁ B hml hv
  obtain ⟨rfl, hsz, hP, hK, hD0, hG⟩ := hv
  have hx := B.exec
  have hb := B.bytes
  have hr := B.returns
  have hts := atoms_spec (ws := (oh_w yX7_judge cX7_judge 7 (some .int))) B.pre
  have htg : ∀ w ∈ oh_t, w.before _ s = true := fun w h => hts w (List.mem_cons_of_mem _ h)
  have hown : s.vm.findClass RX7 = some m.cls := findClass_of_methodNamed B.named
  have hlocks := B.notSynchronized
  have hT0 := hT
  subst hsz
  have hD := hD0.self (sz := s.heap.size)
  generalize hAe : va_A (oh_W n a C) s.heap.size = A at hD hG ⊢
  have hA : ∀ q : Nat, s.heap.size ≤ q → A q := fun q h => by rw [← hAe]; exact Or.inr h
  have hS : va_S A s.heap s.heap [] := va_S.rf
  have hF : fr [(8, 9)] [28] C C := fr_rf
  have hl := lv_entry ([.ref (a 0), .int x1, .int x2, .int x3, .int x4, .int x5]) (n := 7) (Nat.le_of_ble_eq_true rfl)
  rw [lg_entry_eq]
  generalize (lg_sl ([.ref (a 0), .int x1, .int x2, .int x3, .int x4, .int x5]) ++ List.replicate (7 - (lg_sl ([.ref (a 0), .int x1, .int x2, .int x3, .int x4, .int x5])).length) Slot.unset).toArray = ls at hl ⊢
  have hl : lv_has ls 7 [(0, .ref (a 0)), (1, .int x1), (2, .int x2), (3, .int x3), (4, .int x4), (5, .int x5)] := hl
  refine oh_genQ (fun Q hQ => ?_)
  refine lv_aload_n hx hb dX7_judge_0 rfl (lv_at hl 0 rfl) ?_
  refine lv_iload_n hx hb dX7_judge_1 rfl (lv_at hl 1 rfl) ?_
  refine lv_iload_n hx hb dX7_judge_2 rfl (lv_at hl 2 rfl) ?_
  refine lv_iload_n hx hb dX7_judge_3 rfl (lv_at hl 3 rfl) ?_
  refine lv_iload hx hb dX7_judge_4 (lv_at hl 4 rfl) ?_
  refine lv_iload hx hb dX7_judge_6 (lv_at hl 5 rfl) ?_
  refine tm_V (As := [.int x1, .int x2, .int x3, .int x4, .int x5]) (rest := []) ⟨hx, hb, hml, hown, htg⟩ (c_X7_noWay l D E G _ a C n hn hT x1 x2 x3 x4 x5 hR) (cwV 5 htg (oh_gV q_1373 q_1375 q_62 q_73 q_1376) rfl rfl rfl pdVX7_noWay ⟨Nat.le_of_ble_eq_true rfl, Nat.le_of_ble_eq_true rfl⟩) hK hP hD hG hS hA (va_recv hK hP (ci := 7) (q0 := 0) rfl (oh_wg (Nat.lt_of_lt_of_le (by decide) hn) (sM_0 hT))) rfl hl.1 rfl (Nat.le_of_ble_eq_true rfl) dX7_judge_8 ⟨Nat.le_of_ble_eq_true rfl, Nat.le_of_ble_eq_true rfl⟩ (fun r_1 C_2 H locs hq_3 hP hD hS => ?_)
  obtain ⟨hT, f_4, hq_3⟩ := hq_3
  have hF := fr_tr hF f_4 (by decide) (by decide)
  refine W.widen (k := 0) (n := 0) (Nat.le_refl _) (Nat.le_refl _) ?_
  have t_5 := hT
  refine lv_istore (lv' := [(6, .int r_1), (0, .ref (a 0)), (1, .int x1), (2, .int x2), (3, .int x3), (4, .int x4), (5, .int x5)]) hx hb dX7_judge_11 hl (by decide) rfl (fun ls hl => ?_)
  refine lv_iload hx hb dX7_judge_13 (lv_at hl 0 rfl) ?_
  refine lv_if_eq (tgt := 23) hx hb dX7_judge_15 (by decide) (fun (c_6 : r_1 = 0) => ?_) (fun (c_6 : ¬ (r_1 = 0)) => ?_)
  · have u_7 := hq_3.2 c_6
    refine lv_aload_n hx hb dX7_judge_23 rfl (lv_at hl 1 rfl) ?_
    refine lv_iload_n hx hb dX7_judge_24 rfl (lv_at hl 2 rfl) ?_
    refine lv_iload_n hx hb dX7_judge_25 rfl (lv_at hl 3 rfl) ?_
    refine lv_iload_n hx hb dX7_judge_26 rfl (lv_at hl 4 rfl) ?_
    refine lv_iload hx hb dX7_judge_27 (lv_at hl 5 rfl) ?_
    refine lv_iload hx hb dX7_judge_29 (lv_at hl 6 rfl) ?_
    refine tm_V (As := [.int x1, .int x2, .int x3, .int x4, .int x5]) (rest := []) ⟨hx, hb, hml, hown, htg⟩ (c_X7_firstWrong l D E G _ a C_2 n hn hT x1 x2 x3 x4 x5 (rg_w u_7.1 (by decide)) (rg_w u_7.2.1 (by decide)) (rg_w u_7.2.2.1 (by decide)) (rg_w u_7.2.2.2.1 (by decide)) (oh_posU (rg_w u_7.1 (by decide)) (fun i hi => f_4.1 _ (inR_out hi (by decide)) (by omega)) u_7.2.2.2.2)) (cwV 5 htg (oh_gV q_1377 q_1379 q_63 q_73 q_1380) rfl rfl rfl pdVX7_firstWrong ⟨Nat.le_of_ble_eq_true rfl, Nat.le_of_ble_eq_true rfl⟩) hK hP hD hG hS hA (va_recv hK hP (ci := 7) (q0 := 0) rfl (oh_wg (Nat.lt_of_lt_of_le (by decide) hn) (sM_0 hT))) rfl hl.1 rfl (Nat.le_of_ble_eq_true rfl) dX7_judge_31 ⟨Nat.le_of_ble_eq_true rfl, Nat.le_of_ble_eq_true rfl⟩ (fun r_8 C_9 H locs hq_10 hP hD hS => ?_)
    obtain ⟨hT, f_11, hq_10⟩ := hq_10
    have hF := fr_tr hF f_11 (by decide) (by decide)
    refine W.widen (k := 0) (n := 0) (Nat.le_refl _) (Nat.le_refl _) ?_
    have t_12 := hT
    rw [hQ]
    exact W.iret (v := r_8) hx hb hr (fun t ht hW => ⟨⟨r_8, C_9, rfl, ⟨hT, hF, ⟨hR.1.fr hF (by decide), hR.2.fr hF (by decide)⟩⟩, ⟨by rw [ht]; exact hP, hD⟩⟩, hS.F ht⟩) hS.2.2 dX7_judge_34
  · refine lv_iload hx hb dX7_judge_18 (lv_at hl 0 rfl) ?_
    refine lv_goto (tgt := 34) hx hb dX7_judge_20 (by decide) ?_
    rw [hQ]
    exact W.iret (v := r_1) hx hb hr (fun t ht hW => ⟨⟨r_1, C_2, rfl, ⟨hT, hF, hq_3.1⟩, ⟨by rw [ht]; exact hP, hD⟩⟩, hS.F ht⟩) hS.2.2 dX7_judge_34

theorem oh_rgB {c d : va_E} {j : Nat} {lo hi : Int} (e : c = d) (h : rgL (gb d j) lo hi) : rgL (gb c j) lo hi := by rw [e]; exact h

set_option maxHeartbeats 4000000 in
set_option maxRecDepth 100000 in
theorem c_X7_told_ (l : Launch) (D : va_G) (E : Nat → ClassId) (G : Nat → Nat) (sz : Nat) (a : Nat → Nat) (C : Nat → va_E) (n : Nat) (hn : 74 ≤ n) (hT : TyM a E C) (x1 : Int32) (x2 : Int32) (x3 : Int32) (x4 : Int32) (x5 : Int32) (x6 : Int32) (hR : RelM C) : Met l yX7_told_ (oh_w yX7_told_ cX7_told_ 12 (some .int)) ({ frames := 5, cells := 0, slots := 0, locals := 126 }) (oh_Pm D E G [.ref (a 0), .int x1, .int x2, .int x3, .int x4, .int x5, .int x6] (oh_W n a C) sz) (va_Qi (fun r (u : Nat → va_E) => TyM a E u ∧ fr [(8, 9)] [28] C u ∧ (RelM u)) (oh_B D (va_A (oh_W n a C) sz) (fun u => oh_W n a u)) (va_A (oh_W n a C) sz)) 0 0 (va_A (oh_W n a C) sz) := by
  refine Met.ofW (cc := cX7_told_) (maxL := 12) (ret := (some .int)) (by decide) rfl ?_
  intro p e s m args below meth c s₁ B hml hv
  obtain ⟨rfl, hsz, hP, hK, hD0, hG⟩ := hv
  have hx := B.exec
  have hb := B.bytes
  have hr := B.returns
  have hts := atoms_spec (ws := (oh_w yX7_told_ cX7_told_ 12 (some .int))) B.pre
  have htg : ∀ w ∈ oh_t, w.before _ s = true := fun w h => hts w (List.mem_cons_of_mem _ h)
  have hown : s.vm.findClass RX7 = some m.cls := findClass_of_methodNamed B.named
  have hlocks := B.notSynchronized
  have hT0 := hT
  subst hsz
  have hD := hD0.self (sz := s.heap.size)
  generalize hAe : va_A (oh_W n a C) s.heap.size = A at hD hG ⊢
  have hA : ∀ q : Nat, s.heap.size ≤ q → A q := fun q h => by rw [← hAe]; exact Or.inr h
  have hS : va_S A s.heap s.heap [] := va_S.rf
  have hF : fr [(8, 9)] [28] C C := fr_rf
  have hl := lv_entry ([.ref (a 0), .int x1, .int x2, .int x3, .int x4, .int x5, .int x6]) (n := 12) (Nat.le_of_ble_eq_true rfl)
  rw [lg_entry_eq]
  generalize (lg_sl ([.ref (a 0), .int x1, .int x2, .int x3, .int x4, .int x5, .int x6]) ++ List.replicate (12 - (lg_sl ([.ref (a 0), .int x1, .int x2, .int x3, .int x4, .int x5, .int x6])).length) Slot.unset).toArray = ls at hl ⊢
  have hl : lv_has ls 12 [(0, .ref (a 0)), (1, .int x1), (2, .int x2), (3, .int x3), (4, .int x4), (5, .int x5), (6, .int x6)] := hl
  refine oh_genQ (fun Q hQ => ?_)
  refine lv_iload hx hb dX7_told__0 (lv_at hl 6 rfl) ?_
  refine lv_i2l (v := Int32.toInt64 x6) hx hb dX7_told__2 (by rfl) ?_
  refine lv_lconst (v := 0) hx hb dX7_told__3 (by decide) ?_
  refine lv_ldc2 (v := 3) hx hb hown (htg _ q_1385) dX7_told__4 ?_
  refine tq_S (As := [.long (Int32.toInt64 x6), .long 0, .long 3]) (rest := []) (ws := []) ⟨hx, hb, hml, hown, htg⟩ (c_X7_in l D E G (Int32.toInt64 x6) (0 : Int64) (3 : Int64)) (va_cwS 3 htg (oh_gS q_1066 q_1067 q_73 q_1068) rfl rfl rfl pdX7_in ⟨Nat.le_of_ble_eq_true rfl, Nat.le_of_ble_eq_true rfl⟩) hK va_nil hG hS rfl hl.1 rfl (Nat.le_of_ble_eq_true rfl) dX7_told__7 ⟨Nat.le_of_ble_eq_true rfl, Nat.le_of_ble_eq_true rfl⟩ (fun r_1 hq_2 => ?_)
  refine lv_if_ne (tgt := 20) hx hb dX7_told__10 (by decide) (fun (c_3 : ¬ (r_1 = 0)) => ?_) (fun (c_3 : r_1 = 0) => ?_)
  · have u_4 := hq_2.2.1 c_3
    refine lv_aload_n hx hb dX7_told__20 rfl (lv_at hl 0 rfl) ?_
    refine lv_iload_n hx hb dX7_told__21 rfl (lv_at hl 1 rfl) ?_
    refine lv_iload_n hx hb dX7_told__22 rfl (lv_at hl 2 rfl) ?_
    refine lv_iload_n hx hb dX7_told__23 rfl (lv_at hl 3 rfl) ?_
    refine lv_iload hx hb dX7_told__24 (lv_at hl 4 rfl) ?_
    refine lv_iload hx hb dX7_told__26 (lv_at hl 5 rfl) ?_
    refine tm_V (As := [.int x1, .int x2, .int x3, .int x4, .int x5]) (rest := []) ⟨hx, hb, hml, hown, htg⟩ (c_X7_noWay l D E G _ a C n hn hT x1 x2 x3 x4 x5 hR) (cwV 5 htg (oh_gV q_1373 q_1375 q_62 q_73 q_1376) rfl rfl rfl pdVX7_noWay ⟨Nat.le_of_ble_eq_true rfl, Nat.le_of_ble_eq_true rfl⟩) hK hP hD hG hS hA (va_recv hK hP (ci := 7) (q0 := 0) rfl (oh_wg (Nat.lt_of_lt_of_le (by decide) hn) (sM_0 hT))) rfl hl.1 rfl (Nat.le_of_ble_eq_true rfl) dX7_told__28 ⟨Nat.le_of_ble_eq_true rfl, Nat.le_of_ble_eq_true rfl⟩ (fun r_5 C_6 H locs hq_7 hP hD hS => ?_)
    obtain ⟨hT, f_8, hq_7⟩ := hq_7
    have hF := fr_tr hF f_8 (by decide) (by decide)
    refine W.widen (k := 0) (n := 0) (Nat.le_refl _) (Nat.le_refl _) ?_
    have t_9 := hT
    refine lv_istore (lv' := [(7, .int r_5), (0, .ref (a 0)), (1, .int x1), (2, .int x2), (3, .int x3), (4, .int x4), (5, .int x5), (6, .int x6)]) hx hb dX7_told__31 hl (by decide) rfl (fun ls hl => ?_)
    refine lv_iload hx hb dX7_told__33 (lv_at hl 0 rfl) ?_
    refine lv_if_eq (tgt := 41) hx hb dX7_told__35 (by decide) (fun (c_10 : r_5 = 0) => ?_) (fun (c_10 : ¬ (r_5 = 0)) => ?_)
    · have u_11 := hq_7.2 c_10
      refine lv_aload_n hx hb dX7_told__41 rfl (lv_at hl 1 rfl) ?_
      refine lv_iload_n hx hb dX7_told__42 rfl (lv_at hl 2 rfl) ?_
      refine lv_iload_n hx hb dX7_told__43 rfl (lv_at hl 3 rfl) ?_
      refine lv_iload_n hx hb dX7_told__44 rfl (lv_at hl 4 rfl) ?_
      refine lv_iload hx hb dX7_told__45 (lv_at hl 5 rfl) ?_
      refine lv_iload hx hb dX7_told__47 (lv_at hl 6 rfl) ?_
      refine tm_V (As := [.int x1, .int x2, .int x3, .int x4, .int x5]) (rest := []) ⟨hx, hb, hml, hown, htg⟩ (c_X7_firstWrong l D E G _ a C_6 n hn hT x1 x2 x3 x4 x5 (rg_w u_11.1 (by decide)) (rg_w u_11.2.1 (by decide)) (rg_w u_11.2.2.1 (by decide)) (rg_w u_11.2.2.2.1 (by decide)) (oh_posU (rg_w u_11.1 (by decide)) (fun i hi => f_8.1 _ (inR_out hi (by decide)) (by omega)) u_11.2.2.2.2)) (cwV 5 htg (oh_gV q_1377 q_1379 q_63 q_73 q_1380) rfl rfl rfl pdVX7_firstWrong ⟨Nat.le_of_ble_eq_true rfl, Nat.le_of_ble_eq_true rfl⟩) hK hP hD hG hS hA (va_recv hK hP (ci := 7) (q0 := 0) rfl (oh_wg (Nat.lt_of_lt_of_le (by decide) hn) (sM_0 hT))) rfl hl.1 rfl (Nat.le_of_ble_eq_true rfl) dX7_told__49 ⟨Nat.le_of_ble_eq_true rfl, Nat.le_of_ble_eq_true rfl⟩ (fun r_12 C_13 H locs hq_14 hP hD hS => ?_)
      obtain ⟨hT, f_15, hq_14⟩ := hq_14
      have hF := fr_tr hF f_15 (by decide) (by decide)
      refine W.widen (k := 0) (n := 0) (Nat.le_refl _) (Nat.le_refl _) ?_
      have t_16 := hT
      refine lv_iconst (v := (-1)) hx hb dX7_told__52 (by decide) ?_
      refine lv_icmp_eq (tgt := 63) hx hb dX7_told__53 (by decide) (fun (c_17 : r_12 = (-1)) => ?_) (fun (c_17 : ¬ (r_12 = (-1))) => ?_)
      · have u_18 := hq_14 c_17
        refine lv_iconst (v := 0) hx hb dX7_told__63 (by decide) ?_
        refine lv_istore (lv' := [(8, .int 0), (7, .int r_5), (0, .ref (a 0)), (1, .int x1), (2, .int x2), (3, .int x3), (4, .int x4), (5, .int x5), (6, .int x6)]) hx hb dX7_told__64 hl (by decide) rfl (fun ls hl => ?_)
        refine lv_iconst (v := 0) hx hb dX7_told__66 (by decide) ?_
        refine lv_istore (lv' := [(9, .int 0), (8, .int 0), (7, .int r_5), (0, .ref (a 0)), (1, .int x1), (2, .int x2), (3, .int x3), (4, .int x4), (5, .int x5), (6, .int x6)]) hx hb dX7_told__67 hl (by decide) rfl (fun ls hl => ?_)
        refine lv_iconst (v := 0) hx hb dX7_told__69 (by decide) ?_
        refine lv_istore (lv' := [(10, .int 0), (9, .int 0), (8, .int 0), (7, .int r_5), (0, .ref (a 0)), (1, .int x1), (2, .int x2), (3, .int x3), (4, .int x4), (5, .int x5), (6, .int x6)]) hx hb dX7_told__70 hl (by decide) rfl (fun ls hl => ?_)
        have L_72 : ∀ (d : Nat) (K72 : Nat → va_E) (z72_10 : Int32) (z72_9 : Int32) (z72_8 : Int32) (H : Heap) (locs : List Loc) (ls : Array Slot), (20 - z72_10.toInt).toNat = d → rg z72_10 0 20 → TyM a E K72 → fr [(8, 9)] [28] C K72 → fr [] [] C_13 K72 → va_P D vwCl (oh_W n a K72) H → va_D A (oh_W n a K72) → va_S A s.heap H locs → lv_has ls 12 [(10, .int z72_10), (9, .int z72_9), (8, .int z72_8), (7, .int r_5), (0, .ref (a 0)), (1, .int x1), (2, .int x2), (3, .int x3), (4, .int x4), (5, .int x5), (6, .int x6)] → W p l e ({ frames := 5, cells := 0, slots := 0, locals := 126 }) s m (([.ref (a 0), .int x1, .int x2, .int x3, .int x4, .int x5, .int x6] : List Value).toArray) below meth c H locs 0 0 Q (F0 m 72 ls []) := by
          intro d
          induction d using Nat.strongRecOn with
          | ind d ih_72 =>
          intro K72 z72_10 z72_9 z72_8 H locs ls hd_72 hz72_10 hT hF hLF_72 hP hD hS hl
          have t_19 := hT
          refine lv_iload hx hb dX7_told__72 (lv_at hl 0 rfl) ?_
          refine lv_iload hx hb dX7_told__74 (lv_at hl 9 rfl) ?_
          refine lv_icmp_ge (tgt := 144) hx hb dX7_told__76 (by decide) (fun (c_20 : x5 ≤ z72_10) => ?_) (fun (c_20 : ¬ (x5 ≤ z72_10)) => ?_)
          · refine lv_iload hx hb dX7_told__144 (lv_at hl 10 rfl) ?_
            refine lv_iconst (v := 3) hx hb dX7_told__146 (by decide) ?_
            refine lv_icmp_ne (tgt := 155) hx hb dX7_told__147 (by decide) (fun (c_21 : ¬ (x6 = 3)) => ?_) (fun (c_21 : x6 = 3) => ?_)
            · refine lv_iload hx hb dX7_told__155 (lv_at hl 10 rfl) ?_
              refine lv_iconst (v := 2) hx hb dX7_told__157 (by decide) ?_
              refine lv_icmp_ne (tgt := 169) hx hb dX7_told__158 (by decide) (fun (c_22 : ¬ (x6 = 2)) => ?_) (fun (c_22 : x6 = 2) => ?_)
              · refine lv_iload hx hb dX7_told__169 (lv_at hl 2 rfl) ?_
                rw [hQ]
                exact W.iret (v := z72_8) hx hb hr (fun t ht hW => ⟨⟨z72_8, K72, rfl, ⟨hT, hF, ⟨hR.1.fr hF (by decide), hR.2.fr hF (by decide)⟩⟩, ⟨by rw [ht]; exact hP, hD⟩⟩, hS.F ht⟩) hS.2.2 dX7_told__171
              · refine lv_iload hx hb dX7_told__161 (lv_at hl 1 rfl) ?_
                refine tq_S (As := [.int z72_9]) (rest := []) (ws := []) ⟨hx, hb, hml, hown, htg⟩ (c_X7_bits l D E G z72_9) (va_cwS 1 htg (oh_gS q_1386 q_1387 q_73 q_1388) rfl rfl rfl pdX7_bits ⟨Nat.le_of_ble_eq_true rfl, Nat.le_of_ble_eq_true rfl⟩) hK va_nil hG hS rfl hl.1 rfl (Nat.le_of_ble_eq_true rfl) dX7_told__163 ⟨Nat.le_of_ble_eq_true rfl, Nat.le_of_ble_eq_true rfl⟩ (fun r_23 hq_24 => ?_)
                refine lv_goto (tgt := 171) hx hb dX7_told__166 (by decide) ?_
                rw [hQ]
                exact W.iret (v := r_23) hx hb hr (fun t ht hW => ⟨⟨r_23, K72, rfl, ⟨hT, hF, ⟨hR.1.fr hF (by decide), hR.2.fr hF (by decide)⟩⟩, ⟨by rw [ht]; exact hP, hD⟩⟩, hS.F ht⟩) hS.2.2 dX7_told__171
            · refine lv_aload_n hx hb dX7_told__150 rfl (lv_at hl 4 rfl) ?_
              refine va_get (D := D) (ci := 7) (v := .int (gi (C_13 0) 28)) (C := RX7) (T := TX7) (N := 29) hx hb htg ig_7 hown hK hP 0 (oh_wg (Nat.lt_of_lt_of_le (by decide) hn) (sM_0 hT)) rfl 28 (by decide) (htg _ q_1001) (fun _ h9 => h9) (oh_fv (c := K72 0) (j := 28) rfl (congrArg vi (hLF_72.2 28 (by decide)))) dX7_told__151 ?_
              rw [hQ]
              exact W.iret (v := gi (C_13 0) 28) hx hb hr (fun t ht hW => ⟨⟨gi (C_13 0) 28, K72, rfl, ⟨hT, hF, ⟨hR.1.fr hF (by decide), hR.2.fr hF (by decide)⟩⟩, ⟨by rw [ht]; exact hP, hD⟩⟩, hS.F ht⟩) hS.2.2 dX7_told__154
          · refine lv_aload_n hx hb dX7_told__79 rfl (lv_at hl 4 rfl) ?_
            refine va_get (D := D) (ci := 7) (v := .ref (a 4)) (C := RX7) (T := TX7) (N := 29) hx hb htg ig_7 hown hK hP 0 (oh_wg (Nat.lt_of_lt_of_le (by decide) hn) (sM_0 hT)) rfl 3 (by decide) (htg _ q_976) (fun _ h9 => h9) rfl dX7_told__80 ?_
            refine lv_iload hx hb dX7_told__83 (lv_at hl 8 rfl) ?_
            have n_25 : vp_in x4 8 := (rg_in u_11.2.2.1 (by decide))
            have b_26 : (x4).toNatClampNeg < 8 := vp_lt n_25
            refine th_aald hx hb hK hP 4 3 (Nat.lt_of_lt_of_le (by decide) hn) (sM_4 hT) rfl n_25 dX7_told__85 ?_
            refine lv_iload hx hb dX7_told__86 (lv_at hl 0 rfl) ?_
            have n_27 : vp_in z72_10 40 := (rg_in (rn_ltu (u' := 19) (Int32.not_le.mp c_20) hz72_10 u_11.2.2.2.1 (by decide)) (by decide))
            refine th_lald hx hb hK hP (16 + (x4).toNatClampNeg) (lt_blk b_26 hn (by decide)) (Eq.trans (Eq.trans (hLF_72.1 (16 + (x4).toNatClampNeg) (by have h9 := b_26; exact inR_out h9 (by decide)) (by omega)) (Eq.trans (f_15.1 (16 + (x4).toNatClampNeg) (by have h9 := b_26; exact inR_out h9 (by decide)) (by omega)) (f_8.1 (16 + (x4).toNatClampNeg) (by have h9 := b_26; exact inR_out h9 (by decide)) (by omega)))) (hT0.brows b_26)) n_27 dX7_told__88 ?_
            refine lv_l2i (v := Int64.toInt32 (gb (C (16 + (x4).toNatClampNeg)) (z72_10).toNatClampNeg)) hx hb dX7_told__89 rfl ?_
            refine lv_istore (lv' := [(11, .int (Int64.toInt32 (gb (C (16 + (x4).toNatClampNeg)) (z72_10).toNatClampNeg))), (10, .int z72_10), (9, .int z72_9), (8, .int z72_8), (7, .int r_5), (0, .ref (a 0)), (1, .int x1), (2, .int x2), (3, .int x3), (4, .int x4), (5, .int x5), (6, .int x6)]) hx hb dX7_told__90 hl (by decide) rfl (fun ls hl => ?_)
            refine lv_iload hx hb dX7_told__92 (lv_at hl 3 rfl) ?_
            refine lv_iload hx hb dX7_told__94 (lv_at hl 11 rfl) ?_
            refine lv_if_ne (tgt := 111) hx hb dX7_told__96 (by decide) (fun (c_28 : ¬ (x6 = 0)) => ?_) (fun (c_28 : x6 = 0) => ?_)
            · refine lv_aload_n hx hb dX7_told__111 rfl (lv_at hl 5 rfl) ?_
              refine lv_iload_n hx hb dX7_told__112 rfl (lv_at hl 6 rfl) ?_
              refine lv_iload_n hx hb dX7_told__113 rfl (lv_at hl 7 rfl) ?_
              refine lv_iload hx hb dX7_told__114 (lv_at hl 0 rfl) ?_
              refine tq_V (As := [.int x1, .int x2, .int (Int64.toInt32 (gb (C (16 + (x4).toNatClampNeg)) (z72_10).toNatClampNeg))]) (rest := [.int z72_8]) (ws := (oh_W n a K72)) ⟨hx, hb, hml, hown, htg⟩ (c_X7_daysOf l D E G a K72 n hn hT x1 x2 (Int64.toInt32 (gb (C (16 + (x4).toNatClampNeg)) (z72_10).toNatClampNeg)) (rg_w u_11.1 (by decide)) (rg_w (rg_l2i (oh_rgB ((f_8.1 _ (inR_out (b := 16) (N := 8) (vp_lt (rg_in u_11.2.2.1 (by decide))) (by decide)) (by omega))).symm (oh_rowsI (rg_w (lo := 0) (hi := 20) (rn_ltu (u' := 19) (Int32.not_le.mp c_20) hz72_10 u_11.2.2.2.1 (by decide)) (by decide)) (Int32.not_le.mp c_20) u_18)) (by decide)) (by decide)) (oh_posU (rg_w u_11.1 (by decide)) (fun i hi => hLF_72.1 _ (inR_out hi (by decide)) (by omega)) (oh_posU (rg_w u_11.1 (by decide)) (fun i hi => f_15.1 _ (inR_out hi (by decide)) (by omega)) (oh_posU (rg_w u_11.1 (by decide)) (fun i hi => f_8.1 _ (inR_out hi (by decide)) (by omega)) u_11.2.2.2.2)))) (cwV 3 htg (oh_gV q_1334 q_1336 q_58 q_73 q_1337) rfl rfl rfl pdVX7_daysOf ⟨Nat.le_of_ble_eq_true rfl, Nat.le_of_ble_eq_true rfl⟩) hK hP hG hS (va_recv hK hP (ci := 7) (q0 := 0) rfl (oh_wg (Nat.lt_of_lt_of_le (by decide) hn) (sM_0 hT))) rfl hl.1 rfl (Nat.le_of_ble_eq_true rfl) dX7_told__116 ⟨Nat.le_of_ble_eq_true rfl, Nat.le_of_ble_eq_true rfl⟩ (fun r_29 hq_30 => ?_)
              refine lv_iadd hx hb dX7_told__119 ?_
              refine lv_istore (lv' := [(8, .int (z72_8 + r_29)), (11, .int (Int64.toInt32 (gb (C (16 + (x4).toNatClampNeg)) (z72_10).toNatClampNeg))), (10, .int z72_10), (9, .int z72_9), (7, .int r_5), (0, .ref (a 0)), (1, .int x1), (2, .int x2), (3, .int x3), (4, .int x4), (5, .int x5), (6, .int x6)]) hx hb dX7_told__120 hl (by decide) rfl (fun ls hl => ?_)
              refine lv_iload hx hb dX7_told__122 (lv_at hl 3 rfl) ?_
              refine lv_iconst (v := 1) hx hb dX7_told__124 (by decide) ?_
              refine lv_aload_n hx hb dX7_told__125 rfl (lv_at hl 5 rfl) ?_
              refine va_get (D := D) (ci := 7) (v := .ref (a 9)) (C := RX7) (T := TX7) (N := 29) hx hb htg ig_7 hown hK hP 0 (oh_wg (Nat.lt_of_lt_of_le (by decide) hn) (sM_0 hT)) rfl 10 (by decide) (htg _ q_983) (fun _ h9 => h9) rfl dX7_told__126 ?_
              refine lv_iload hx hb dX7_told__129 (lv_at hl 1 rfl) ?_
              have n_31 : vp_in (Int64.toInt32 (gb (C (16 + (x4).toNatClampNeg)) (z72_10).toNatClampNeg)) 24 := (rg_in (rg_l2i (oh_rgB ((f_8.1 _ (inR_out (b := 16) (N := 8) (vp_lt (rg_in u_11.2.2.1 (by decide))) (by decide)) (by omega))).symm (oh_rowsI (rg_w (lo := 0) (hi := 20) (rn_ltu (u' := 19) (Int32.not_le.mp c_20) hz72_10 u_11.2.2.2.1 (by decide)) (by decide)) (Int32.not_le.mp c_20) u_18)) (by decide)) (by decide))
              have b_32 : (Int64.toInt32 (gb (C (16 + (x4).toNatClampNeg)) (z72_10).toNatClampNeg)).toNatClampNeg < 24 := vp_lt n_31
              refine th_aald hx hb hK hP 9 2 (Nat.lt_of_lt_of_le (by decide) hn) (sM_9 hT) rfl n_31 dX7_told__131 ?_
              refine lv_iconst (v := 5) hx hb dX7_told__132 (by decide) ?_
              refine th_iald hx hb hK hP (24 + (Int64.toInt32 (gb (C (16 + (x4).toNatClampNeg)) (z72_10).toNatClampNeg)).toNatClampNeg) (lt_blk b_32 hn (by decide)) (Eq.trans (Eq.trans (hLF_72.1 (24 + (Int64.toInt32 (gb (C (16 + (x4).toNatClampNeg)) (z72_10).toNatClampNeg)).toNatClampNeg) (by have h9 := b_32; exact inR_out h9 (by decide)) (by omega)) (Eq.trans (f_15.1 (24 + (Int64.toInt32 (gb (C (16 + (x4).toNatClampNeg)) (z72_10).toNatClampNeg)).toNatClampNeg) (by have h9 := b_32; exact inR_out h9 (by decide)) (by omega)) (f_8.1 (24 + (Int64.toInt32 (gb (C (16 + (x4).toNatClampNeg)) (z72_10).toNatClampNeg)).toNatClampNeg) (by have h9 := b_32; exact inR_out h9 (by decide)) (by omega)))) (hT0.broad b_32).1) (rg_in (rg_c (v := 5) (lo := 5) (hi := 5) (by decide)) (by decide)) dX7_told__133 ?_
              refine lv_ishl hx hb dX7_told__134 ?_
              refine lv_ior hx hb dX7_told__135 ?_
              refine lv_istore (lv' := [(9, .int (z72_9 ||| ((1 : Int32) <<< ((ga (C (24 + (Int64.toInt32 (gb (C (16 + (x4).toNatClampNeg)) (z72_10).toNatClampNeg)).toNatClampNeg)) ((5 : Int32)).toNatClampNeg) &&& 31)))), (8, .int (z72_8 + r_29)), (11, .int (Int64.toInt32 (gb (C (16 + (x4).toNatClampNeg)) (z72_10).toNatClampNeg))), (10, .int z72_10), (7, .int r_5), (0, .ref (a 0)), (1, .int x1), (2, .int x2), (3, .int x3), (4, .int x4), (5, .int x5), (6, .int x6)]) hx hb dX7_told__136 hl (by decide) rfl (fun ls hl => ?_)
              refine lv_iinc (v := z72_10 + 1) (lv' := [(10, .int (z72_10 + 1)), (9, .int (z72_9 ||| ((1 : Int32) <<< ((ga (C (24 + (Int64.toInt32 (gb (C (16 + (x4).toNatClampNeg)) (z72_10).toNatClampNeg)).toNatClampNeg)) ((5 : Int32)).toNatClampNeg) &&& 31)))), (8, .int (z72_8 + r_29)), (11, .int (Int64.toInt32 (gb (C (16 + (x4).toNatClampNeg)) (z72_10).toNatClampNeg))), (7, .int r_5), (0, .ref (a 0)), (1, .int x1), (2, .int x2), (3, .int x3), (4, .int x4), (5, .int x5), (6, .int x6)]) hx hb dX7_told__138 hl (k := 3) rfl (by rfl) (by decide) rfl (fun ls hl => ?_)
              refine lv_goto (tgt := 72) hx hb dX7_told__141 (by decide) ?_
              exact ih_72 _ (hd_72 ▸ mu_up 20 (rn_ltu (u' := 19) (Int32.not_le.mp c_20) hz72_10 u_11.2.2.2.1 (by decide)) (by decide)) K72 (z72_10 + 1) (z72_9 ||| ((1 : Int32) <<< ((ga (C (24 + (Int64.toInt32 (gb (C (16 + (x4).toNatClampNeg)) (z72_10).toNatClampNeg)).toNatClampNeg)) ((5 : Int32)).toNatClampNeg) &&& 31))) (z72_8 + r_29) _ _ ls rfl (rg_w (rg_add (lo := 1) (hi := 20) (rn_ltu (u' := 19) (Int32.not_le.mp c_20) hz72_10 u_11.2.2.2.1 (by decide)) (rg_c (v := 1) (lo := 1) (hi := 1) (by decide)) (by decide)) (by decide)) hT hF hLF_72 hP hD hS (lv_sub hl [0, 1, 2, 4, 5, 6, 7, 8, 9, 10, 11] rfl)
            · refine lv_aload_n hx hb dX7_told__99 rfl (lv_at hl 5 rfl) ?_
              refine lv_iload_n hx hb dX7_told__100 rfl (lv_at hl 6 rfl) ?_
              refine lv_iload_n hx hb dX7_told__101 rfl (lv_at hl 7 rfl) ?_
              refine lv_iload hx hb dX7_told__102 (lv_at hl 0 rfl) ?_
              refine lv_iconst (v := 1) hx hb dX7_told__104 (by decide) ?_
              refine tq_V (As := [.int x1, .int x2, .int (Int64.toInt32 (gb (C (16 + (x4).toNatClampNeg)) (z72_10).toNatClampNeg)), .int 1]) (rest := [.int z72_8]) (ws := (oh_W n a K72)) ⟨hx, hb, hml, hown, htg⟩ (c_X7_coinOf l D E G a K72 n hn hT x1 x2 (Int64.toInt32 (gb (C (16 + (x4).toNatClampNeg)) (z72_10).toNatClampNeg)) (1 : Int32) (rg_w u_11.1 (by decide)) (rg_w (rg_l2i (oh_rgB ((f_8.1 _ (inR_out (b := 16) (N := 8) (vp_lt (rg_in u_11.2.2.1 (by decide))) (by decide)) (by omega))).symm (oh_rowsI (rg_w (lo := 0) (hi := 20) (rn_ltu (u' := 19) (Int32.not_le.mp c_20) hz72_10 u_11.2.2.2.1 (by decide)) (by decide)) (Int32.not_le.mp c_20) u_18)) (by decide)) (by decide)) (oh_posU (rg_w u_11.1 (by decide)) (fun i hi => hLF_72.1 _ (inR_out hi (by decide)) (by omega)) (oh_posU (rg_w u_11.1 (by decide)) (fun i hi => f_15.1 _ (inR_out hi (by decide)) (by omega)) (oh_posU (rg_w u_11.1 (by decide)) (fun i hi => f_8.1 _ (inR_out hi (by decide)) (by omega)) u_11.2.2.2.2)))) (cwV 4 htg (oh_gV q_1326 q_1328 q_56 q_73 q_1329) rfl rfl rfl pdVX7_coinOf ⟨Nat.le_of_ble_eq_true rfl, Nat.le_of_ble_eq_true rfl⟩) hK hP hG hS (va_recv hK hP (ci := 7) (q0 := 0) rfl (oh_wg (Nat.lt_of_lt_of_le (by decide) hn) (sM_0 hT))) rfl hl.1 rfl (Nat.le_of_ble_eq_true rfl) dX7_told__105 ⟨Nat.le_of_ble_eq_true rfl, Nat.le_of_ble_eq_true rfl⟩ (fun r_33 hq_34 => ?_)
              refine lv_goto (tgt := 119) hx hb dX7_told__108 (by decide) ?_
              refine lv_iadd hx hb dX7_told__119 ?_
              refine lv_istore (lv' := [(8, .int (z72_8 + r_33)), (11, .int (Int64.toInt32 (gb (C (16 + (x4).toNatClampNeg)) (z72_10).toNatClampNeg))), (10, .int z72_10), (9, .int z72_9), (7, .int r_5), (0, .ref (a 0)), (1, .int x1), (2, .int x2), (3, .int x3), (4, .int x4), (5, .int x5), (6, .int x6)]) hx hb dX7_told__120 hl (by decide) rfl (fun ls hl => ?_)
              refine lv_iload hx hb dX7_told__122 (lv_at hl 3 rfl) ?_
              refine lv_iconst (v := 1) hx hb dX7_told__124 (by decide) ?_
              refine lv_aload_n hx hb dX7_told__125 rfl (lv_at hl 5 rfl) ?_
              refine va_get (D := D) (ci := 7) (v := .ref (a 9)) (C := RX7) (T := TX7) (N := 29) hx hb htg ig_7 hown hK hP 0 (oh_wg (Nat.lt_of_lt_of_le (by decide) hn) (sM_0 hT)) rfl 10 (by decide) (htg _ q_983) (fun _ h9 => h9) rfl dX7_told__126 ?_
              refine lv_iload hx hb dX7_told__129 (lv_at hl 1 rfl) ?_
              have n_35 : vp_in (Int64.toInt32 (gb (C (16 + (x4).toNatClampNeg)) (z72_10).toNatClampNeg)) 24 := (rg_in (rg_l2i (oh_rgB ((f_8.1 _ (inR_out (b := 16) (N := 8) (vp_lt (rg_in u_11.2.2.1 (by decide))) (by decide)) (by omega))).symm (oh_rowsI (rg_w (lo := 0) (hi := 20) (rn_ltu (u' := 19) (Int32.not_le.mp c_20) hz72_10 u_11.2.2.2.1 (by decide)) (by decide)) (Int32.not_le.mp c_20) u_18)) (by decide)) (by decide))
              have b_36 : (Int64.toInt32 (gb (C (16 + (x4).toNatClampNeg)) (z72_10).toNatClampNeg)).toNatClampNeg < 24 := vp_lt n_35
              refine th_aald hx hb hK hP 9 2 (Nat.lt_of_lt_of_le (by decide) hn) (sM_9 hT) rfl n_35 dX7_told__131 ?_
              refine lv_iconst (v := 5) hx hb dX7_told__132 (by decide) ?_
              refine th_iald hx hb hK hP (24 + (Int64.toInt32 (gb (C (16 + (x4).toNatClampNeg)) (z72_10).toNatClampNeg)).toNatClampNeg) (lt_blk b_36 hn (by decide)) (Eq.trans (Eq.trans (hLF_72.1 (24 + (Int64.toInt32 (gb (C (16 + (x4).toNatClampNeg)) (z72_10).toNatClampNeg)).toNatClampNeg) (by have h9 := b_36; exact inR_out h9 (by decide)) (by omega)) (Eq.trans (f_15.1 (24 + (Int64.toInt32 (gb (C (16 + (x4).toNatClampNeg)) (z72_10).toNatClampNeg)).toNatClampNeg) (by have h9 := b_36; exact inR_out h9 (by decide)) (by omega)) (f_8.1 (24 + (Int64.toInt32 (gb (C (16 + (x4).toNatClampNeg)) (z72_10).toNatClampNeg)).toNatClampNeg) (by have h9 := b_36; exact inR_out h9 (by decide)) (by omega)))) (hT0.broad b_36).1) (rg_in (rg_c (v := 5) (lo := 5) (hi := 5) (by decide)) (by decide)) dX7_told__133 ?_
              refine lv_ishl hx hb dX7_told__134 ?_
              refine lv_ior hx hb dX7_told__135 ?_
              refine lv_istore (lv' := [(9, .int (z72_9 ||| ((1 : Int32) <<< ((ga (C (24 + (Int64.toInt32 (gb (C (16 + (x4).toNatClampNeg)) (z72_10).toNatClampNeg)).toNatClampNeg)) ((5 : Int32)).toNatClampNeg) &&& 31)))), (8, .int (z72_8 + r_33)), (11, .int (Int64.toInt32 (gb (C (16 + (x4).toNatClampNeg)) (z72_10).toNatClampNeg))), (10, .int z72_10), (7, .int r_5), (0, .ref (a 0)), (1, .int x1), (2, .int x2), (3, .int x3), (4, .int x4), (5, .int x5), (6, .int x6)]) hx hb dX7_told__136 hl (by decide) rfl (fun ls hl => ?_)
              refine lv_iinc (v := z72_10 + 1) (lv' := [(10, .int (z72_10 + 1)), (9, .int (z72_9 ||| ((1 : Int32) <<< ((ga (C (24 + (Int64.toInt32 (gb (C (16 + (x4).toNatClampNeg)) (z72_10).toNatClampNeg)).toNatClampNeg)) ((5 : Int32)).toNatClampNeg) &&& 31)))), (8, .int (z72_8 + r_33)), (11, .int (Int64.toInt32 (gb (C (16 + (x4).toNatClampNeg)) (z72_10).toNatClampNeg))), (7, .int r_5), (0, .ref (a 0)), (1, .int x1), (2, .int x2), (3, .int x3), (4, .int x4), (5, .int x5), (6, .int x6)]) hx hb dX7_told__138 hl (k := 3) rfl (by rfl) (by decide) rfl (fun ls hl => ?_)
              refine lv_goto (tgt := 72) hx hb dX7_told__141 (by decide) ?_
              exact ih_72 _ (hd_72 ▸ mu_up 20 (rn_ltu (u' := 19) (Int32.not_le.mp c_20) hz72_10 u_11.2.2.2.1 (by decide)) (by decide)) K72 (z72_10 + 1) (z72_9 ||| ((1 : Int32) <<< ((ga (C (24 + (Int64.toInt32 (gb (C (16 + (x4).toNatClampNeg)) (z72_10).toNatClampNeg)).toNatClampNeg)) ((5 : Int32)).toNatClampNeg) &&& 31))) (z72_8 + r_33) _ _ ls rfl (rg_w (rg_add (lo := 1) (hi := 20) (rn_ltu (u' := 19) (Int32.not_le.mp c_20) hz72_10 u_11.2.2.2.1 (by decide)) (rg_c (v := 1) (lo := 1) (hi := 1) (by decide)) (by decide)) (by decide)) hT hF hLF_72 hP hD hS (lv_sub hl [0, 1, 2, 4, 5, 6, 7, 8, 9, 10, 11] rfl)
        exact L_72 _ C_13 0 0 0 _ _ ls rfl (rg_w (rg_c (v := 0) (lo := 0) (hi := 0) (by decide)) (by decide)) hT hF fr_rf hP hD hS (lv_sub hl [0, 1, 2, 3, 4, 5, 6, 7, 8, 9, 10] rfl)
      · refine lv_aload_n hx hb dX7_told__56 rfl (lv_at hl 1 rfl) ?_
        refine lv_bipush (v := (-5)) hx hb dX7_told__57 (by decide) ?_
        refine tm_V (As := [.int (-5)]) (rest := []) ⟨hx, hb, hml, hown, htg⟩ (c_X7_refuse l D E G _ a C_13 n hn hT ((-5) : Int32) (rg_w (rg_c (v := (-5)) (lo := (-5)) (hi := (-5)) (by decide)) (by decide))) (cwV 1 htg (oh_gV q_1071 q_1073 q_29 q_73 q_1074) rfl rfl rfl pdVX7_refuse ⟨Nat.le_of_ble_eq_true rfl, Nat.le_of_ble_eq_true rfl⟩) hK hP hD hG hS hA (va_recv hK hP (ci := 7) (q0 := 0) rfl (oh_wg (Nat.lt_of_lt_of_le (by decide) hn) (sM_0 hT))) rfl hl.1 rfl (Nat.le_of_ble_eq_true rfl) dX7_told__59 ⟨Nat.le_of_ble_eq_true rfl, Nat.le_of_ble_eq_true rfl⟩ (fun r_37 C_38 H locs hq_39 hP hD hS => ?_)
        obtain ⟨hT, f_40, hq_39⟩ := hq_39
        have hF := fr_tr hF f_40 (by decide) (by decide)
        refine W.widen (k := 0) (n := 0) (Nat.le_refl _) (Nat.le_refl _) ?_
        have t_41 := hT
        rw [hQ]
        exact W.iret (v := r_37) hx hb hr (fun t ht hW => ⟨⟨r_37, C_38, rfl, ⟨hT, hF, ⟨hR.1.fr hF (by decide), hR.2.fr hF (by decide)⟩⟩, ⟨by rw [ht]; exact hP, hD⟩⟩, hS.F ht⟩) hS.2.2 dX7_told__62
    · refine lv_iload hx hb dX7_told__38 (lv_at hl 0 rfl) ?_
      rw [hQ]
      exact W.iret (v := r_5) hx hb hr (fun t ht hW => ⟨⟨r_5, C_6, rfl, ⟨hT, hF, hq_7.1⟩, ⟨by rw [ht]; exact hP, hD⟩⟩, hS.F ht⟩) hS.2.2 dX7_told__40
  · have u_42 := hq_2.2.2 c_3
    refine lv_aload_n hx hb dX7_told__13 rfl (lv_at hl 0 rfl) ?_
    refine lv_bipush (v := (-2)) hx hb dX7_told__14 (by decide) ?_
    refine tm_V (As := [.int (-2)]) (rest := []) ⟨hx, hb, hml, hown, htg⟩ (c_X7_refuse l D E G _ a C n hn hT ((-2) : Int32) (rg_w (rg_c (v := (-2)) (lo := (-2)) (hi := (-2)) (by decide)) (by decide))) (cwV 1 htg (oh_gV q_1071 q_1073 q_29 q_73 q_1074) rfl rfl rfl pdVX7_refuse ⟨Nat.le_of_ble_eq_true rfl, Nat.le_of_ble_eq_true rfl⟩) hK hP hD hG hS hA (va_recv hK hP (ci := 7) (q0 := 0) rfl (oh_wg (Nat.lt_of_lt_of_le (by decide) hn) (sM_0 hT))) rfl hl.1 rfl (Nat.le_of_ble_eq_true rfl) dX7_told__16 ⟨Nat.le_of_ble_eq_true rfl, Nat.le_of_ble_eq_true rfl⟩ (fun r_43 C_44 H locs hq_45 hP hD hS => ?_)
    obtain ⟨hT, f_46, hq_45⟩ := hq_45
    have hF := fr_tr hF f_46 (by decide) (by decide)
    refine W.widen (k := 0) (n := 0) (Nat.le_refl _) (Nat.le_refl _) ?_
    have t_47 := hT
    rw [hQ]
    exact W.iret (v := r_43) hx hb hr (fun t ht hW => ⟨⟨r_43, C_44, rfl, ⟨hT, hF, ⟨hR.1.fr hF (by decide), hR.2.fr hF (by decide)⟩⟩, ⟨by rw [ht]; exact hP, hD⟩⟩, hS.F ht⟩) hS.2.2 dX7_told__19

set_option maxHeartbeats 4000000 in
set_option maxRecDepth 100000 in
theorem c_X7_fewest (l : Launch) (D : va_G) (E : Nat → ClassId) (G : Nat → Nat) (sz : Nat) (a : Nat → Nat) (C : Nat → va_E) (n : Nat) (hn : 74 ≤ n) (hT : TyM a E C) (x1 : Int32) (x2 : Int32) (x3 : Int32) (hR : RelM C) : Met l yX7_fewest (oh_w yX7_fewest cX7_fewest 6 (some .int)) ({ frames := 7, cells := 0, slots := 0, locals := 177 }) (oh_Pm D E G [.ref (a 0), .int x1, .int x2, .int x3] (oh_W n a C) sz) (va_Qi (fun r (u : Nat → va_E) => TyM a E u ∧ fr [(8, 9), (15, 16)] [] C u ∧ (RelM u)) (oh_B D (va_A (oh_W n a C) sz) (fun u => oh_W n a u)) (va_A (oh_W n a C) sz)) 0 0 (va_A (oh_W n a C) sz) := by
  refine Met.ofW (cc := cX7_fewest) (maxL := 6) (ret := (some .int)) (by decide) rfl ?_
  intro p e s m args below meth c s₁ B hml hv
  obtain ⟨rfl, hsz, hP, hK, hD0, hG⟩ := hv
  have hx := B.exec
  have hb := B.bytes
  have hr := B.returns
  have hts := atoms_spec (ws := (oh_w yX7_fewest cX7_fewest 6 (some .int))) B.pre
  have htg : ∀ w ∈ oh_t, w.before _ s = true := fun w h => hts w (List.mem_cons_of_mem _ h)
  have hown : s.vm.findClass RX7 = some m.cls := findClass_of_methodNamed B.named
  have hlocks := B.notSynchronized
  have hT0 := hT
  subst hsz
  have hD := hD0.self (sz := s.heap.size)
  generalize hAe : va_A (oh_W n a C) s.heap.size = A at hD hG ⊢
  have hA : ∀ q : Nat, s.heap.size ≤ q → A q := fun q h => by rw [← hAe]; exact Or.inr h
  have hS : va_S A s.heap s.heap [] := va_S.rf
  have hF : fr [(8, 9), (15, 16)] [] C C := fr_rf
  have hl := lv_entry ([.ref (a 0), .int x1, .int x2, .int x3]) (n := 6) (Nat.le_of_ble_eq_true rfl)
  rw [lg_entry_eq]
  generalize (lg_sl ([.ref (a 0), .int x1, .int x2, .int x3]) ++ List.replicate (6 - (lg_sl ([.ref (a 0), .int x1, .int x2, .int x3])).length) Slot.unset).toArray = ls at hl ⊢
  have hl : lv_has ls 6 [(0, .ref (a 0)), (1, .int x1), (2, .int x2), (3, .int x3)] := hl
  refine oh_genQ (fun Q hQ => ?_)
  refine lv_aload_n hx hb dX7_fewest_0 rfl (lv_at hl 0 rfl) ?_
  refine lv_iload_n hx hb dX7_fewest_1 rfl (lv_at hl 1 rfl) ?_
  refine tq_V (As := [.int x1]) (rest := []) (ws := (oh_W n a C)) ⟨hx, hb, hml, hown, htg⟩ (c_X7_isWaggon l D E G a C n hn hT x1 hR.1) (cwV 1 htg (oh_gV q_1278 q_1280 q_48 q_73 q_1281) rfl rfl rfl pdVX7_isWaggon ⟨Nat.le_of_ble_eq_true rfl, Nat.le_of_ble_eq_true rfl⟩) hK hP hG hS (va_recv hK hP (ci := 7) (q0 := 0) rfl (oh_wg (Nat.lt_of_lt_of_le (by decide) hn) (sM_0 hT))) rfl hl.1 rfl (Nat.le_of_ble_eq_true rfl) dX7_fewest_2 ⟨Nat.le_of_ble_eq_true rfl, Nat.le_of_ble_eq_true rfl⟩ (fun r_1 hq_2 => ?_)
  refine lv_if_eq (tgt := 22) hx hb dX7_fewest_5 (by decide) (fun (c_3 : r_1 = 0) => ?_) (fun (c_3 : ¬ (r_1 = 0)) => ?_)
  · refine lv_aload_n hx hb dX7_fewest_22 rfl (lv_at hl 0 rfl) ?_
    refine lv_bipush (v := (-2)) hx hb dX7_fewest_23 (by decide) ?_
    refine tm_V (As := [.int (-2)]) (rest := []) ⟨hx, hb, hml, hown, htg⟩ (c_X7_refuse l D E G _ a C n hn hT ((-2) : Int32) (rg_w (rg_c (v := (-2)) (lo := (-2)) (hi := (-2)) (by decide)) (by decide))) (cwV 1 htg (oh_gV q_1071 q_1073 q_29 q_73 q_1074) rfl rfl rfl pdVX7_refuse ⟨Nat.le_of_ble_eq_true rfl, Nat.le_of_ble_eq_true rfl⟩) hK hP hD hG hS hA (va_recv hK hP (ci := 7) (q0 := 0) rfl (oh_wg (Nat.lt_of_lt_of_le (by decide) hn) (sM_0 hT))) rfl hl.1 rfl (Nat.le_of_ble_eq_true rfl) dX7_fewest_25 ⟨Nat.le_of_ble_eq_true rfl, Nat.le_of_ble_eq_true rfl⟩ (fun r_4 C_5 H locs hq_6 hP hD hS => ?_)
    obtain ⟨hT, f_7, hq_6⟩ := hq_6
    have hF := fr_tr hF f_7 (by decide) (by decide)
    refine W.widen (k := 0) (n := 0) (Nat.le_refl _) (Nat.le_refl _) ?_
    have t_8 := hT
    rw [hQ]
    exact W.iret (v := r_4) hx hb hr (fun t ht hW => ⟨⟨r_4, C_5, rfl, ⟨hT, hF, ⟨hR.1.fr hF (by decide), hR.2.fr hF (by decide)⟩⟩, ⟨by rw [ht]; exact hP, hD⟩⟩, hS.F ht⟩) hS.2.2 dX7_fewest_28
  · have u_9 := hq_2.2 c_3
    refine lv_iload_n hx hb dX7_fewest_8 rfl (lv_at hl 2 rfl) ?_
    refine tq_S (As := [.int x2]) (rest := []) (ws := []) ⟨hx, hb, hml, hown, htg⟩ (c_X7_isPlace l D E G x2) (va_cwS 1 htg (oh_gS q_1130 q_1131 q_73 q_1132) rfl rfl rfl pdX7_isPlace ⟨Nat.le_of_ble_eq_true rfl, Nat.le_of_ble_eq_true rfl⟩) hK va_nil hG hS rfl hl.1 rfl (Nat.le_of_ble_eq_true rfl) dX7_fewest_9 ⟨Nat.le_of_ble_eq_true rfl, Nat.le_of_ble_eq_true rfl⟩ (fun r_10 hq_11 => ?_)
    refine lv_if_eq (tgt := 22) hx hb dX7_fewest_12 (by decide) (fun (c_12 : r_10 = 0) => ?_) (fun (c_12 : ¬ (r_10 = 0)) => ?_)
    · refine lv_aload_n hx hb dX7_fewest_22 rfl (lv_at hl 0 rfl) ?_
      refine lv_bipush (v := (-2)) hx hb dX7_fewest_23 (by decide) ?_
      refine tm_V (As := [.int (-2)]) (rest := []) ⟨hx, hb, hml, hown, htg⟩ (c_X7_refuse l D E G _ a C n hn hT ((-2) : Int32) (rg_w (rg_c (v := (-2)) (lo := (-2)) (hi := (-2)) (by decide)) (by decide))) (cwV 1 htg (oh_gV q_1071 q_1073 q_29 q_73 q_1074) rfl rfl rfl pdVX7_refuse ⟨Nat.le_of_ble_eq_true rfl, Nat.le_of_ble_eq_true rfl⟩) hK hP hD hG hS hA (va_recv hK hP (ci := 7) (q0 := 0) rfl (oh_wg (Nat.lt_of_lt_of_le (by decide) hn) (sM_0 hT))) rfl hl.1 rfl (Nat.le_of_ble_eq_true rfl) dX7_fewest_25 ⟨Nat.le_of_ble_eq_true rfl, Nat.le_of_ble_eq_true rfl⟩ (fun r_13 C_14 H locs hq_15 hP hD hS => ?_)
      obtain ⟨hT, f_16, hq_15⟩ := hq_15
      have hF := fr_tr hF f_16 (by decide) (by decide)
      refine W.widen (k := 0) (n := 0) (Nat.le_refl _) (Nat.le_refl _) ?_
      have t_17 := hT
      rw [hQ]
      exact W.iret (v := r_13) hx hb hr (fun t ht hW => ⟨⟨r_13, C_14, rfl, ⟨hT, hF, ⟨hR.1.fr hF (by decide), hR.2.fr hF (by decide)⟩⟩, ⟨by rw [ht]; exact hP, hD⟩⟩, hS.F ht⟩) hS.2.2 dX7_fewest_28
    · have u_18 := hq_11.2 c_12
      refine lv_iload_n hx hb dX7_fewest_15 rfl (lv_at hl 3 rfl) ?_
      refine tq_S (As := [.int x3]) (rest := []) (ws := []) ⟨hx, hb, hml, hown, htg⟩ (c_X7_isPlace l D E G x3) (va_cwS 1 htg (oh_gS q_1130 q_1131 q_73 q_1132) rfl rfl rfl pdX7_isPlace ⟨Nat.le_of_ble_eq_true rfl, Nat.le_of_ble_eq_true rfl⟩) hK va_nil hG hS rfl hl.1 rfl (Nat.le_of_ble_eq_true rfl) dX7_fewest_16 ⟨Nat.le_of_ble_eq_true rfl, Nat.le_of_ble_eq_true rfl⟩ (fun r_19 hq_20 => ?_)
      refine lv_if_ne (tgt := 29) hx hb dX7_fewest_19 (by decide) (fun (c_21 : ¬ (r_19 = 0)) => ?_) (fun (c_21 : r_19 = 0) => ?_)
      · have u_22 := hq_20.2 c_21
        refine lv_iconst (v := 0) hx hb dX7_fewest_29 (by decide) ?_
        refine lv_istore (lv' := [(4, .int 0), (0, .ref (a 0)), (1, .int x1), (2, .int x2), (3, .int x3)]) hx hb dX7_fewest_30 hl (by decide) rfl (fun ls hl => ?_)
        have L_32 : ∀ (d : Nat) (K32 : Nat → va_E) (z32_4 : Int32) (H : Heap) (locs : List Loc) (ls : Array Slot), (6 - z32_4.toInt).toNat = d → rg z32_4 0 6 → TyM a E K32 → fr [(8, 9), (15, 16)] [] C K32 → fr [(15, 16)] [] C K32 → va_P D vwCl (oh_W n a K32) H → va_D A (oh_W n a K32) → va_S A s.heap H locs → lv_has ls 6 [(4, .int z32_4), (0, .ref (a 0)), (1, .int x1), (2, .int x2), (3, .int x3)] → W p l e ({ frames := 7, cells := 0, slots := 0, locals := 177 }) s m (([.ref (a 0), .int x1, .int x2, .int x3] : List Value).toArray) below meth c H locs 0 0 Q (F0 m 32 ls []) := by
          intro d
          induction d using Nat.strongRecOn with
          | ind d ih_32 =>
          intro K32 z32_4 H locs ls hd_32 hz32_4 hT hF hLF_32 hP hD hS hl
          have t_23 := hT
          refine lv_iload hx hb dX7_fewest_32 (lv_at hl 0 rfl) ?_
          refine lv_aload_n hx hb dX7_fewest_34 rfl (lv_at hl 1 rfl) ?_
          refine va_get (D := D) (ci := 7) (v := .int (gi (C 0) 15)) (C := RX7) (T := TX7) (N := 29) hx hb htg ig_7 hown hK hP 0 (oh_wg (Nat.lt_of_lt_of_le (by decide) hn) (sM_0 hT)) rfl 15 (by decide) (htg _ q_988) (fun _ h9 => h9) (oh_fv (c := K32 0) (j := 15) rfl (congrArg vi (hLF_32.2 15 (by decide)))) dX7_fewest_35 ?_
          refine lv_icmp_gt (tgt := 94) hx hb dX7_fewest_38 (by decide) (fun (c_24 : (gi (C 0) 15) < z32_4) => ?_) (fun (c_24 : ¬ ((gi (C 0) 15) < z32_4)) => ?_)
          · refine lv_aload_n hx hb dX7_fewest_94 rfl (lv_at hl 1 rfl) ?_
            refine lv_bipush (v := (-5)) hx hb dX7_fewest_95 (by decide) ?_
            refine tm_V (As := [.int (-5)]) (rest := []) ⟨hx, hb, hml, hown, htg⟩ (c_X7_refuse l D E G _ a K32 n hn hT ((-5) : Int32) (rg_w (rg_c (v := (-5)) (lo := (-5)) (hi := (-5)) (by decide)) (by decide))) (cwV 1 htg (oh_gV q_1071 q_1073 q_29 q_73 q_1074) rfl rfl rfl pdVX7_refuse ⟨Nat.le_of_ble_eq_true rfl, Nat.le_of_ble_eq_true rfl⟩) hK hP hD hG hS hA (va_recv hK hP (ci := 7) (q0 := 0) rfl (oh_wg (Nat.lt_of_lt_of_le (by decide) hn) (sM_0 hT))) rfl hl.1 rfl (Nat.le_of_ble_eq_true rfl) dX7_fewest_97 ⟨Nat.le_of_ble_eq_true rfl, Nat.le_of_ble_eq_true rfl⟩ (fun r_25 C_26 H locs hq_27 hP hD hS => ?_)
            obtain ⟨hT, f_28, hq_27⟩ := hq_27
            have hF := fr_tr hF f_28 (by decide) (by decide)
            refine W.widen (k := 0) (n := 0) (Nat.le_refl _) (Nat.le_refl _) ?_
            have t_29 := hT
            rw [hQ]
            exact W.iret (v := r_25) hx hb hr (fun t ht hW => ⟨⟨r_25, C_26, rfl, ⟨hT, hF, ⟨hR.1.fr hF (by decide), hR.2.fr hF (by decide)⟩⟩, ⟨by rw [ht]; exact hP, hD⟩⟩, hS.F ht⟩) hS.2.2 dX7_fewest_100
          · refine lv_iconst (v := 0) hx hb dX7_fewest_41 (by decide) ?_
            refine lv_istore (lv' := [(5, .int 0), (4, .int z32_4), (0, .ref (a 0)), (1, .int x1), (2, .int x2), (3, .int x3)]) hx hb dX7_fewest_42 hl (by decide) rfl (fun ls hl => ?_)
            have L_44 : ∀ (d : Nat) (K44 : Nat → va_E) (z44_5 : Int32) (H : Heap) (locs : List Loc) (ls : Array Slot), (32 - z44_5.toInt).toNat = d → rg z44_5 0 32 → TyM a E K44 → fr [(8, 9), (15, 16)] [] C K44 → fr [(15, 16)] [] K32 K44 → va_P D vwCl (oh_W n a K44) H → va_D A (oh_W n a K44) → va_S A s.heap H locs → lv_has ls 6 [(5, .int z44_5), (4, .int z32_4), (0, .ref (a 0)), (1, .int x1), (2, .int x2), (3, .int x3)] → W p l e ({ frames := 7, cells := 0, slots := 0, locals := 177 }) s m (([.ref (a 0), .int x1, .int x2, .int x3] : List Value).toArray) below meth c H locs 0 0 Q (F0 m 44 ls []) := by
              intro d
              induction d using Nat.strongRecOn with
              | ind d ih_44 =>
              intro K44 z44_5 H locs ls hd_44 hz44_5 hT hF hLF_44 hP hD hS hl
              have t_30 := hT
              refine lv_iload hx hb dX7_fewest_44 (lv_at hl 0 rfl) ?_
              refine lv_iconst (v := 1) hx hb dX7_fewest_46 (by decide) ?_
              refine lv_aload_n hx hb dX7_fewest_47 rfl (lv_at hl 2 rfl) ?_
              refine va_get (D := D) (ci := 7) (v := .int (gi (C 0) 15)) (C := RX7) (T := TX7) (N := 29) hx hb htg ig_7 hown hK hP 0 (oh_wg (Nat.lt_of_lt_of_le (by decide) hn) (sM_0 hT)) rfl 15 (by decide) (htg _ q_988) (fun _ h9 => h9) (oh_fv (c := K44 0) (j := 15) rfl (Eq.trans (congrArg vi (hLF_44.2 15 (by decide))) (congrArg vi (hLF_32.2 15 (by decide))))) dX7_fewest_48 ?_
              refine lv_ishl hx hb dX7_fewest_51 ?_
              refine lv_icmp_ge (tgt := 88) hx hb dX7_fewest_52 (by decide) (fun (c_31 : ((1 : Int32) <<< ((gi (C 0) 15) &&& 31)) ≤ z44_5) => ?_) (fun (c_31 : ¬ (((1 : Int32) <<< ((gi (C 0) 15) &&& 31)) ≤ z44_5)) => ?_)
              · refine lv_iinc (v := z32_4 + 1) (lv' := [(4, .int (z32_4 + 1)), (5, .int z44_5), (0, .ref (a 0)), (1, .int x1), (2, .int x2), (3, .int x3)]) hx hb dX7_fewest_88 hl (k := 1) rfl (by rfl) (by decide) rfl (fun ls hl => ?_)
                refine lv_goto (tgt := 32) hx hb dX7_fewest_91 (by decide) ?_
                exact ih_32 _ (hd_32 ▸ mu_up 6 (rn_leu (Int32.not_lt.mp c_24) hz32_4 (fM_0_15 hT0)) (by decide)) K44 (z32_4 + 1) _ _ ls rfl (rg_w (rg_add (lo := 1) (hi := 6) (rn_leu (Int32.not_lt.mp c_24) hz32_4 (fM_0_15 hT0)) (rg_c (v := 1) (lo := 1) (hi := 1) (by decide)) (by decide)) (by decide)) hT hF (fr_tr hLF_32 hLF_44 (by decide) (by decide)) hP hD hS (lv_sub hl [0, 2, 3, 4, 5] rfl)
              · refine lv_iload hx hb dX7_fewest_55 (lv_at hl 0 rfl) ?_
                refine tq_S (As := [.int z44_5]) (rest := []) (ws := []) ⟨hx, hb, hml, hown, htg⟩ (c_X7_bits l D E G z44_5) (va_cwS 1 htg (oh_gS q_1386 q_1387 q_73 q_1388) rfl rfl rfl pdX7_bits ⟨Nat.le_of_ble_eq_true rfl, Nat.le_of_ble_eq_true rfl⟩) hK va_nil hG hS rfl hl.1 rfl (Nat.le_of_ble_eq_true rfl) dX7_fewest_57 ⟨Nat.le_of_ble_eq_true rfl, Nat.le_of_ble_eq_true rfl⟩ (fun r_32 hq_33 => ?_)
                refine lv_iload hx hb dX7_fewest_60 (lv_at hl 1 rfl) ?_
                refine lv_icmp_ne (tgt := 82) hx hb dX7_fewest_62 (by decide) (fun (c_34 : ¬ (r_32 = z32_4)) => ?_) (fun (c_34 : r_32 = z32_4) => ?_)
                · refine lv_iinc (v := z44_5 + 1) (lv' := [(5, .int (z44_5 + 1)), (4, .int z32_4), (0, .ref (a 0)), (1, .int x1), (2, .int x2), (3, .int x3)]) hx hb dX7_fewest_82 hl (k := 0) rfl (by rfl) (by decide) rfl (fun ls hl => ?_)
                  refine lv_goto (tgt := 44) hx hb dX7_fewest_85 (by decide) ?_
                  exact ih_44 _ (hd_44 ▸ mu_up 32 (rn_ltu (u' := 31) (Int32.not_le.mp c_31) hz44_5 (rg_shl1 (fM_0_15 hT0)) (by decide)) (by decide)) K44 (z44_5 + 1) _ _ ls rfl (rg_w (rg_add (lo := 1) (hi := 32) (rn_ltu (u' := 31) (Int32.not_le.mp c_31) hz44_5 (rg_shl1 (fM_0_15 hT0)) (by decide)) (rg_c (v := 1) (lo := 1) (hi := 1) (by decide)) (by decide)) (by decide)) hT hF hLF_44 hP hD hS (lv_sub hl [0, 1, 2, 3, 4, 5] rfl)
                · refine lv_aload_n hx hb dX7_fewest_65 rfl (lv_at hl 2 rfl) ?_
                  refine lv_iload_n hx hb dX7_fewest_66 rfl (lv_at hl 3 rfl) ?_
                  refine lv_iload hx hb dX7_fewest_67 (lv_at hl 0 rfl) ?_
                  refine lv_iload_n hx hb dX7_fewest_69 rfl (lv_at hl 4 rfl) ?_
                  refine lv_iload_n hx hb dX7_fewest_70 rfl (lv_at hl 5 rfl) ?_
                  refine lv_iconst (v := 1) hx hb dX7_fewest_71 (by decide) ?_
                  refine tm_V (As := [.int x1, .int z44_5, .int x2, .int x3, .int 1]) (rest := []) ⟨hx, hb, hml, hown, htg⟩ (c_X7_cheapestOf l D E G _ a K44 n hn hT x1 z44_5 x2 x3 (1 : Int32) (rg_w u_9.1 (by decide)) (rg_w u_18 (by decide)) (rg_w u_22 (by decide)) (oh_posU (rg_w u_9.1 (by decide)) (fun i hi => hLF_44.1 _ (inR_out hi (by decide)) (by omega)) (oh_posU (rg_w u_9.1 (by decide)) (fun i hi => hLF_32.1 _ (inR_out hi (by decide)) (by omega)) u_9.2.1))) (cwV 5 htg (oh_gV q_1347 q_1349 q_59 q_73 q_1350) rfl rfl rfl pdVX7_cheapestOf ⟨Nat.le_of_ble_eq_true rfl, Nat.le_of_ble_eq_true rfl⟩) hK hP hD hG hS hA (va_recv hK hP (ci := 7) (q0 := 0) rfl (oh_wg (Nat.lt_of_lt_of_le (by decide) hn) (sM_0 hT))) rfl hl.1 rfl (Nat.le_of_ble_eq_true rfl) dX7_fewest_72 ⟨Nat.le_of_ble_eq_true rfl, Nat.le_of_ble_eq_true rfl⟩ (fun r_35 C_36 H locs hq_37 hP hD hS => ?_)
                  obtain ⟨hT, f_38, hq_37⟩ := hq_37
                  have hF := fr_tr hF f_38 (by decide) (by decide)
                  refine W.widen (k := 0) (n := 0) (Nat.le_refl _) (Nat.le_refl _) ?_
                  have t_39 := hT
                  refine lv_iconst (v := (-1)) hx hb dX7_fewest_75 (by decide) ?_
                  refine lv_icmp_eq (tgt := 82) hx hb dX7_fewest_76 (by decide) (fun (c_40 : r_35 = (-1)) => ?_) (fun (c_40 : ¬ (r_35 = (-1))) => ?_)
                  · refine lv_iinc (v := z44_5 + 1) (lv' := [(5, .int (z44_5 + 1)), (4, .int z32_4), (0, .ref (a 0)), (1, .int x1), (2, .int x2), (3, .int x3)]) hx hb dX7_fewest_82 hl (k := 0) rfl (by rfl) (by decide) rfl (fun ls hl => ?_)
                    refine lv_goto (tgt := 44) hx hb dX7_fewest_85 (by decide) ?_
                    exact ih_44 _ (hd_44 ▸ mu_up 32 (rn_ltu (u' := 31) (Int32.not_le.mp c_31) hz44_5 (rg_shl1 (fM_0_15 hT0)) (by decide)) (by decide)) C_36 (z44_5 + 1) _ _ ls rfl (rg_w (rg_add (lo := 1) (hi := 32) (rn_ltu (u' := 31) (Int32.not_le.mp c_31) hz44_5 (rg_shl1 (fM_0_15 hT0)) (by decide)) (rg_c (v := 1) (lo := 1) (hi := 1) (by decide)) (by decide)) (by decide)) hT hF (fr_tr hLF_44 f_38 (by decide) (by decide)) hP hD hS (lv_sub hl [0, 1, 2, 3, 4, 5] rfl)
                  · refine lv_iload hx hb dX7_fewest_79 (lv_at hl 0 rfl) ?_
                    rw [hQ]
                    exact W.iret (v := z44_5) hx hb hr (fun t ht hW => ⟨⟨z44_5, C_36, rfl, ⟨hT, hF, ⟨hR.1.fr hF (by decide), hR.2.fr hF (by decide)⟩⟩, ⟨by rw [ht]; exact hP, hD⟩⟩, hS.F ht⟩) hS.2.2 dX7_fewest_81
            exact L_44 _ K32 0 _ _ ls rfl (rg_w (rg_c (v := 0) (lo := 0) (hi := 0) (by decide)) (by decide)) hT hF fr_rf hP hD hS (lv_sub hl [0, 1, 2, 3, 4, 5] rfl)
        exact L_32 _ C 0 _ _ ls rfl (rg_w (rg_c (v := 0) (lo := 0) (hi := 0) (by decide)) (by decide)) hT hF fr_rf hP hD hS (lv_sub hl [0, 1, 2, 3, 4] rfl)
      · refine lv_aload_n hx hb dX7_fewest_22 rfl (lv_at hl 0 rfl) ?_
        refine lv_bipush (v := (-2)) hx hb dX7_fewest_23 (by decide) ?_
        refine tm_V (As := [.int (-2)]) (rest := []) ⟨hx, hb, hml, hown, htg⟩ (c_X7_refuse l D E G _ a C n hn hT ((-2) : Int32) (rg_w (rg_c (v := (-2)) (lo := (-2)) (hi := (-2)) (by decide)) (by decide))) (cwV 1 htg (oh_gV q_1071 q_1073 q_29 q_73 q_1074) rfl rfl rfl pdVX7_refuse ⟨Nat.le_of_ble_eq_true rfl, Nat.le_of_ble_eq_true rfl⟩) hK hP hD hG hS hA (va_recv hK hP (ci := 7) (q0 := 0) rfl (oh_wg (Nat.lt_of_lt_of_le (by decide) hn) (sM_0 hT))) rfl hl.1 rfl (Nat.le_of_ble_eq_true rfl) dX7_fewest_25 ⟨Nat.le_of_ble_eq_true rfl, Nat.le_of_ble_eq_true rfl⟩ (fun r_41 C_42 H locs hq_43 hP hD hS => ?_)
        obtain ⟨hT, f_44, hq_43⟩ := hq_43
        have hF := fr_tr hF f_44 (by decide) (by decide)
        refine W.widen (k := 0) (n := 0) (Nat.le_refl _) (Nat.le_refl _) ?_
        have t_45 := hT
        rw [hQ]
        exact W.iret (v := r_41) hx hb hr (fun t ht hW => ⟨⟨r_41, C_42, rfl, ⟨hT, hF, ⟨hR.1.fr hF (by decide), hR.2.fr hF (by decide)⟩⟩, ⟨by rw [ht]; exact hP, hD⟩⟩, hS.F ht⟩) hS.2.2 dX7_fewest_28

theorem oh_mid {p q : Int32} (hp : rg p 0 901) (hq : rg q (-1) 900) (c : p ≤ q) : rg ((p + q) / 2) 0 900 ∧ p.toInt ≤ ((p + q) / 2).toInt ∧ ((p + q) / 2).toInt ≤ q.toInt := by
  have c1 := Int32.le_iff_toInt_le.mp c
  obtain ⟨p1, p2⟩ := hp
  obtain ⟨q1, q2⟩ := hq
  have e : (p + q).toInt = p.toInt + q.toInt := by
    rw [Int32.toInt_add]
    exact oh_bmod (by omega) (by omega)
  have e2 : ((p + q) / 2).toInt = (p.toInt + q.toInt) / 2 := by
    rw [Int32.toInt_div, e]
    have h0 : (p.toInt + q.toInt).tdiv (2 : Int32).toInt = (p.toInt + q.toInt) / 2 := Int.tdiv_eq_ediv_of_nonneg (by omega)
    rw [h0]
    exact oh_bmod (by omega) (by omega)
  unfold rg
  rw [e2]
  omega
theorem oh_midu {x m p q : Int32} (hx : x = m) (hm : rg m 0 900 ∧ p.toInt ≤ m.toInt ∧ m.toInt ≤ q.toInt) : rg (x + 1) 0 901 ∧ (q.toInt - (x + 1).toInt + 1).toNat < (q.toInt - p.toInt + 1).toNat := by
  subst hx
  have e : (x + 1).toInt = x.toInt + 1 := by
    rw [Int32.toInt_add]
    exact oh_bmod (by show _ ≤ x.toInt + 1; have := hm.1.1; omega) (by show x.toInt + 1 ≤ _; have := hm.1.2; omega)
  unfold rg
  rw [e]
  obtain ⟨⟨a1, a2⟩, a3, a4⟩ := hm
  omega
theorem oh_midd {x m p q : Int32} (hx : x = m) (hm : rg m 0 900 ∧ p.toInt ≤ m.toInt ∧ m.toInt ≤ q.toInt) : rg (x - 1) (-1) 900 ∧ ((x - 1).toInt - p.toInt + 1).toNat < (q.toInt - p.toInt + 1).toNat := by
  subst hx
  have e : (x - 1).toInt = x.toInt - 1 := by
    rw [Int32.toInt_sub]
    exact oh_bmod (by show _ ≤ x.toInt - 1; have := hm.1.1; omega) (by show x.toInt - 1 ≤ _; have := hm.1.2; omega)
  unfold rg
  rw [e]
  obtain ⟨⟨a1, a2⟩, a3, a4⟩ := hm
  omega

set_option maxHeartbeats 4000000 in
set_option maxRecDepth 100000 in
theorem c_X7_status (l : Launch) (D : va_G) (E : Nat → ClassId) (G : Nat → Nat) (a : Nat → Nat) (C : Nat → va_E) (n : Nat) (hn : 74 ≤ n) (hT : TyM a E C) (x1 : Int32) (hR : RelM C) : Met l yX7_status (oh_w yX7_status cX7_status 4 (some .int)) ({ frames := 1, cells := 0, slots := 0, locals := 25 }) (oh_Pp D E G [.ref (a 0), .int x1] (oh_W n a C)) (vp_Si (fun r => True)) 0 0 (fun _ => False) := by
  refine Met.ofW (cc := cX7_status) (maxL := 4) (ret := (some .int)) (by decide) rfl ?_
  intro p e s m args below meth c s₁ B hml hv
  obtain ⟨rfl, hP, hK, hG⟩ := hv
  have hx := B.exec
  have hb := B.bytes
  have hr := B.returns
  have hts := atoms_spec (ws := (oh_w yX7_status cX7_status 4 (some .int))) B.pre
  have htg : ∀ w ∈ oh_t, w.before _ s = true := fun w h => hts w (List.mem_cons_of_mem _ h)
  have hown : s.vm.findClass RX7 = some m.cls := findClass_of_methodNamed B.named
  have hlocks := B.notSynchronized
  have hT0 := hT
  have hS : va_S (fun _ => False) s.heap s.heap [] := va_S.rf
  have hl := lv_entry ([.ref (a 0), .int x1]) (n := 4) (Nat.le_of_ble_eq_true rfl)
  rw [lg_entry_eq]
  generalize (lg_sl ([.ref (a 0), .int x1]) ++ List.replicate (4 - (lg_sl ([.ref (a 0), .int x1])).length) Slot.unset).toArray = ls at hl ⊢
  have hl : lv_has ls 4 [(0, .ref (a 0)), (1, .int x1)] := hl
  refine oh_genQ (fun Q hQ => ?_)
  refine lv_iconst (v := 0) hx hb dX7_status_0 (by decide) ?_
  refine lv_istore_n (lv' := [(2, .int 0), (0, .ref (a 0)), (1, .int x1)]) hx hb dX7_status_1 rfl hl (by decide) rfl (fun ls hl => ?_)
  refine lv_iload_n hx hb dX7_status_2 rfl (lv_at hl 2 rfl) ?_
  by_cases c_1 : x1 = 0
  · refine lv_tableIn (off := 45) (tgt := 48) hx hb dX7_status_3 (by rw [c_1]; decide) (by rw [c_1]; decide) (by rw [c_1]; decide) (by decide) ?_
    refine lv_aload_n hx hb dX7_status_48 rfl (lv_at hl 1 rfl) ?_
    refine va_get (D := D) (ci := 7) (v := .int (gi (C 0) 9)) (C := RX7) (T := TX7) (N := 29) hx hb htg ig_7 hown hK hP 0 (oh_wg (Nat.lt_of_lt_of_le (by decide) hn) (sM_0 hT)) rfl 9 (by decide) (htg _ q_982) (fun _ h9 => h9) rfl dX7_status_49 ?_
    rw [hQ]
    exact W.iret (v := gi (C 0) 9) hx hb hr (fun t ht hW => ⟨gi (C 0) 9, rfl, trivial, ht⟩) (fun q h => by cases h) dX7_status_52
  · by_cases c_2 : x1 = 1
    · refine lv_tableIn (off := 50) (tgt := 53) hx hb dX7_status_3 (by rw [c_2]; decide) (by rw [c_2]; decide) (by rw [c_2]; decide) (by decide) ?_
      refine lv_aload_n hx hb dX7_status_53 rfl (lv_at hl 1 rfl) ?_
      refine va_get (D := D) (ci := 7) (v := .int (gi (C 0) 11)) (C := RX7) (T := TX7) (N := 29) hx hb htg ig_7 hown hK hP 0 (oh_wg (Nat.lt_of_lt_of_le (by decide) hn) (sM_0 hT)) rfl 11 (by decide) (htg _ q_984) (fun _ h9 => h9) rfl dX7_status_54 ?_
      rw [hQ]
      exact W.iret (v := gi (C 0) 11) hx hb hr (fun t ht hW => ⟨gi (C 0) 11, rfl, trivial, ht⟩) (fun q h => by cases h) dX7_status_57
    · by_cases c_3 : x1 = 2
      · refine lv_tableIn (off := 55) (tgt := 58) hx hb dX7_status_3 (by rw [c_3]; decide) (by rw [c_3]; decide) (by rw [c_3]; decide) (by decide) ?_
        refine lv_aload_n hx hb dX7_status_58 rfl (lv_at hl 1 rfl) ?_
        refine va_get (D := D) (ci := 7) (v := .int (gi (C 0) 13)) (C := RX7) (T := TX7) (N := 29) hx hb htg ig_7 hown hK hP 0 (oh_wg (Nat.lt_of_lt_of_le (by decide) hn) (sM_0 hT)) rfl 13 (by decide) (htg _ q_986) (fun _ h9 => h9) rfl dX7_status_59 ?_
        rw [hQ]
        exact W.iret (v := gi (C 0) 13) hx hb hr (fun t ht hW => ⟨gi (C 0) 13, rfl, trivial, ht⟩) (fun q h => by cases h) dX7_status_62
      · by_cases c_4 : x1 = 3
        · refine lv_tableIn (off := 60) (tgt := 63) hx hb dX7_status_3 (by rw [c_4]; decide) (by rw [c_4]; decide) (by rw [c_4]; decide) (by decide) ?_
          refine lv_aload_n hx hb dX7_status_63 rfl (lv_at hl 1 rfl) ?_
          refine va_get (D := D) (ci := 7) (v := .int (gi (C 0) 15)) (C := RX7) (T := TX7) (N := 29) hx hb htg ig_7 hown hK hP 0 (oh_wg (Nat.lt_of_lt_of_le (by decide) hn) (sM_0 hT)) rfl 15 (by decide) (htg _ q_988) (fun _ h9 => h9) rfl dX7_status_64 ?_
          rw [hQ]
          exact W.iret (v := gi (C 0) 15) hx hb hr (fun t ht hW => ⟨gi (C 0) 15, rfl, trivial, ht⟩) (fun q h => by cases h) dX7_status_67
        · by_cases c_5 : x1 = 4
          · refine lv_tableIn (off := 65) (tgt := 68) hx hb dX7_status_3 (by rw [c_5]; decide) (by rw [c_5]; decide) (by rw [c_5]; decide) (by decide) ?_
            refine lv_aload_n hx hb dX7_status_68 rfl (lv_at hl 1 rfl) ?_
            refine va_get (D := D) (ci := 7) (v := .int (gi (C 0) 7)) (C := RX7) (T := TX7) (N := 29) hx hb htg ig_7 hown hK hP 0 (oh_wg (Nat.lt_of_lt_of_le (by decide) hn) (sM_0 hT)) rfl 7 (by decide) (htg _ q_980) (fun _ h9 => h9) rfl dX7_status_69 ?_
            rw [hQ]
            exact W.iret (v := gi (C 0) 7) hx hb hr (fun t ht hW => ⟨gi (C 0) 7, rfl, trivial, ht⟩) (fun q h => by cases h) dX7_status_72
          · by_cases c_6 : x1 = 5
            · refine lv_tableIn (off := 70) (tgt := 73) hx hb dX7_status_3 (by rw [c_6]; decide) (by rw [c_6]; decide) (by rw [c_6]; decide) (by decide) ?_
              refine lv_iconst (v := 0) hx hb dX7_status_73 (by decide) ?_
              refine lv_istore_n (lv' := [(3, .int 0), (2, .int 0), (0, .ref (a 0)), (1, .int x1)]) hx hb dX7_status_74 rfl hl (by decide) rfl (fun ls hl => ?_)
              have L_75 : ∀ (d : Nat) (z75_3 : Int32) (z75_2 : Int32) (ls : Array Slot), (8 - z75_3.toInt).toNat = d → rg z75_3 0 8 → lv_has ls 4 [(3, .int z75_3), (2, .int z75_2), (0, .ref (a 0)), (1, .int x1)] → W p l e ({ frames := 1, cells := 0, slots := 0, locals := 25 }) s m (([.ref (a 0), .int x1] : List Value).toArray) below meth c s.heap [] 0 0 Q (F0 m 75 ls []) := by
                intro d
                induction d using Nat.strongRecOn with
                | ind d ih_75 =>
                intro z75_3 z75_2 ls hd_75 hz75_3 hl
                refine lv_iload_n hx hb dX7_status_75 rfl (lv_at hl 0 rfl) ?_
                refine lv_bipush (v := 8) hx hb dX7_status_76 (by decide) ?_
                refine lv_icmp_ge (tgt := 104) hx hb dX7_status_78 (by decide) (fun (c_7 : (8 : Int32) ≤ z75_3) => ?_) (fun (c_7 : ¬ ((8 : Int32) ≤ z75_3)) => ?_)
                · refine lv_iload_n hx hb dX7_status_104 rfl (lv_at hl 1 rfl) ?_
                  rw [hQ]
                  exact W.iret (v := z75_2) hx hb hr (fun t ht hW => ⟨z75_2, rfl, trivial, ht⟩) (fun q h => by cases h) dX7_status_105
                · refine lv_iload_n hx hb dX7_status_81 rfl (lv_at hl 1 rfl) ?_
                  refine lv_aload_n hx hb dX7_status_82 rfl (lv_at hl 2 rfl) ?_
                  refine va_get (D := D) (ci := 7) (v := .ref (a 1)) (C := RX7) (T := TX7) (N := 29) hx hb htg ig_7 hown hK hP 0 (oh_wg (Nat.lt_of_lt_of_le (by decide) hn) (sM_0 hT)) rfl 0 (by decide) (htg _ q_973) (fun _ h9 => h9) rfl dX7_status_83 ?_
                  refine lv_iload_n hx hb dX7_status_86 rfl (lv_at hl 0 rfl) ?_
                  have n_8 : vp_in z75_3 8 := (rg_in (rn_ltu (u' := 7) (Int32.not_le.mp c_7) hz75_3 (rg_c (v := 8) (lo := 8) (hi := 8) (by decide)) (by decide)) (by decide))
                  refine th_iald hx hb hK hP 1 (Nat.lt_of_lt_of_le (by decide) hn) (sM_1 hT) n_8 dX7_status_87 ?_
                  refine lv_if_eq (tgt := 95) hx hb dX7_status_88 (by decide) (fun (c_9 : (ga (C 1) (z75_3).toNatClampNeg) = 0) => ?_) (fun (c_9 : ¬ ((ga (C 1) (z75_3).toNatClampNeg) = 0)) => ?_)
                  · refine lv_iconst (v := 0) hx hb dX7_status_95 (by decide) ?_
                    refine lv_iadd hx hb dX7_status_96 ?_
                    refine lv_istore_n (lv' := [(2, .int (z75_2 + 0)), (3, .int z75_3), (0, .ref (a 0)), (1, .int x1)]) hx hb dX7_status_97 rfl hl (by decide) rfl (fun ls hl => ?_)
                    refine lv_iinc (v := z75_3 + 1) (lv' := [(3, .int (z75_3 + 1)), (2, .int (z75_2 + 0)), (0, .ref (a 0)), (1, .int x1)]) hx hb dX7_status_98 hl (k := 1) rfl (by rfl) (by decide) rfl (fun ls hl => ?_)
                    refine lv_goto (tgt := 75) hx hb dX7_status_101 (by decide) ?_
                    exact ih_75 _ (hd_75 ▸ mu_up 8 (rn_ltu (u' := 7) (Int32.not_le.mp c_7) hz75_3 (rg_c (v := 8) (lo := 8) (hi := 8) (by decide)) (by decide)) (by decide)) (z75_3 + 1) (z75_2 + 0) ls rfl (rg_w (rg_add (lo := 1) (hi := 8) (rn_ltu (u' := 7) (Int32.not_le.mp c_7) hz75_3 (rg_c (v := 8) (lo := 8) (hi := 8) (by decide)) (by decide)) (rg_c (v := 1) (lo := 1) (hi := 1) (by decide)) (by decide)) (by decide)) (lv_sub hl [0, 1, 2, 3] rfl)
                  · refine lv_iconst (v := 1) hx hb dX7_status_91 (by decide) ?_
                    refine lv_goto (tgt := 96) hx hb dX7_status_92 (by decide) ?_
                    refine lv_iadd hx hb dX7_status_96 ?_
                    refine lv_istore_n (lv' := [(2, .int (z75_2 + 1)), (3, .int z75_3), (0, .ref (a 0)), (1, .int x1)]) hx hb dX7_status_97 rfl hl (by decide) rfl (fun ls hl => ?_)
                    refine lv_iinc (v := z75_3 + 1) (lv' := [(3, .int (z75_3 + 1)), (2, .int (z75_2 + 1)), (0, .ref (a 0)), (1, .int x1)]) hx hb dX7_status_98 hl (k := 1) rfl (by rfl) (by decide) rfl (fun ls hl => ?_)
                    refine lv_goto (tgt := 75) hx hb dX7_status_101 (by decide) ?_
                    exact ih_75 _ (hd_75 ▸ mu_up 8 (rn_ltu (u' := 7) (Int32.not_le.mp c_7) hz75_3 (rg_c (v := 8) (lo := 8) (hi := 8) (by decide)) (by decide)) (by decide)) (z75_3 + 1) (z75_2 + 1) ls rfl (rg_w (rg_add (lo := 1) (hi := 8) (rn_ltu (u' := 7) (Int32.not_le.mp c_7) hz75_3 (rg_c (v := 8) (lo := 8) (hi := 8) (by decide)) (by decide)) (rg_c (v := 1) (lo := 1) (hi := 1) (by decide)) (by decide)) (by decide)) (lv_sub hl [0, 1, 2, 3] rfl)
              exact L_75 _ 0 0 ls rfl (rg_w (rg_c (v := 0) (lo := 0) (hi := 0) (by decide)) (by decide)) (lv_sub hl [0, 1, 2, 3] rfl)
            · by_cases c_10 : x1 = 6
              · refine lv_tableIn (off := 103) (tgt := 106) hx hb dX7_status_3 (by rw [c_10]; decide) (by rw [c_10]; decide) (by rw [c_10]; decide) (by decide) ?_
                refine lv_iconst (v := 0) hx hb dX7_status_106 (by decide) ?_
                refine lv_istore_n (lv' := [(3, .int 0), (2, .int 0), (0, .ref (a 0)), (1, .int x1)]) hx hb dX7_status_107 rfl hl (by decide) rfl (fun ls hl => ?_)
                have L_108 : ∀ (d : Nat) (z108_3 : Int32) (z108_2 : Int32) (ls : Array Slot), (16 - z108_3.toInt).toNat = d → rg z108_3 0 16 → lv_has ls 4 [(3, .int z108_3), (2, .int z108_2), (0, .ref (a 0)), (1, .int x1)] → W p l e ({ frames := 1, cells := 0, slots := 0, locals := 25 }) s m (([.ref (a 0), .int x1] : List Value).toArray) below meth c s.heap [] 0 0 Q (F0 m 108 ls []) := by
                  intro d
                  induction d using Nat.strongRecOn with
                  | ind d ih_108 =>
                  intro z108_3 z108_2 ls hd_108 hz108_3 hl
                  refine lv_iload_n hx hb dX7_status_108 rfl (lv_at hl 0 rfl) ?_
                  refine lv_aload_n hx hb dX7_status_109 rfl (lv_at hl 2 rfl) ?_
                  refine va_get (D := D) (ci := 7) (v := .int (gi (C 0) 11)) (C := RX7) (T := TX7) (N := 29) hx hb htg ig_7 hown hK hP 0 (oh_wg (Nat.lt_of_lt_of_le (by decide) hn) (sM_0 hT)) rfl 11 (by decide) (htg _ q_984) (fun _ h9 => h9) rfl dX7_status_110 ?_
                  refine lv_icmp_ge (tgt := 135) hx hb dX7_status_113 (by decide) (fun (c_11 : (gi (C 0) 11) ≤ z108_3) => ?_) (fun (c_11 : ¬ ((gi (C 0) 11) ≤ z108_3)) => ?_)
                  · refine lv_iload_n hx hb dX7_status_135 rfl (lv_at hl 1 rfl) ?_
                    rw [hQ]
                    exact W.iret (v := z108_2) hx hb hr (fun t ht hW => ⟨z108_2, rfl, trivial, ht⟩) (fun q h => by cases h) dX7_status_136
                  · refine lv_iload_n hx hb dX7_status_116 rfl (lv_at hl 1 rfl) ?_
                    refine lv_aload_n hx hb dX7_status_117 rfl (lv_at hl 2 rfl) ?_
                    refine va_get (D := D) (ci := 7) (v := .ref (a 10)) (C := RX7) (T := TX7) (N := 29) hx hb htg ig_7 hown hK hP 0 (oh_wg (Nat.lt_of_lt_of_le (by decide) hn) (sM_0 hT)) rfl 12 (by decide) (htg _ q_985) (fun _ h9 => h9) rfl dX7_status_118 ?_
                    refine lv_iload_n hx hb dX7_status_121 rfl (lv_at hl 0 rfl) ?_
                    have n_12 : vp_in z108_3 16 := (rg_in (rn_ltu (u' := 15) (Int32.not_le.mp c_11) hz108_3 (fM_0_11 hT0) (by decide)) (by decide))
                    have b_13 : (z108_3).toNatClampNeg < 16 := vp_lt n_12
                    refine th_aald hx hb hK hP 10 2 (Nat.lt_of_lt_of_le (by decide) hn) (sM_10 hT) rfl n_12 dX7_status_122 ?_
                    refine lv_iload_n hx hb dX7_status_123 rfl (lv_at hl 3 rfl) ?_
                    refine lv_iconst (v := 1) hx hb dX7_status_124 (by decide) ?_
                    refine lv_iadd hx hb dX7_status_125 ?_
                    have n_14 : vp_in (x1 + 1) 10 := (rg_in (rg_add (lo := 7) (hi := 7) (rn_eq c_10 (rg_c (v := 6) (lo := 6) (hi := 6) (by decide))) (rg_c (v := 1) (lo := 1) (hi := 1) (by decide)) (by decide)) (by decide))
                    refine th_iald hx hb hK hP (48 + (z108_3).toNatClampNeg) (lt_blk b_13 hn (by decide)) (hT.bbridge b_13).1 n_14 dX7_status_126 ?_
                    refine lv_iadd hx hb dX7_status_127 ?_
                    refine lv_istore_n (lv' := [(2, .int (z108_2 + (ga (C (48 + (z108_3).toNatClampNeg)) (x1 + 1).toNatClampNeg))), (3, .int z108_3), (0, .ref (a 0)), (1, .int x1)]) hx hb dX7_status_128 rfl hl (by decide) rfl (fun ls hl => ?_)
                    refine lv_iinc (v := z108_3 + 1) (lv' := [(3, .int (z108_3 + 1)), (2, .int (z108_2 + (ga (C (48 + (z108_3).toNatClampNeg)) (x1 + 1).toNatClampNeg))), (0, .ref (a 0)), (1, .int x1)]) hx hb dX7_status_129 hl (k := 1) rfl (by rfl) (by decide) rfl (fun ls hl => ?_)
                    refine lv_goto (tgt := 108) hx hb dX7_status_132 (by decide) ?_
                    exact ih_108 _ (hd_108 ▸ mu_up 16 (rn_ltu (u' := 15) (Int32.not_le.mp c_11) hz108_3 (fM_0_11 hT0) (by decide)) (by decide)) (z108_3 + 1) (z108_2 + (ga (C (48 + (z108_3).toNatClampNeg)) (x1 + 1).toNatClampNeg)) ls rfl (rg_w (rg_add (lo := 1) (hi := 16) (rn_ltu (u' := 15) (Int32.not_le.mp c_11) hz108_3 (fM_0_11 hT0) (by decide)) (rg_c (v := 1) (lo := 1) (hi := 1) (by decide)) (by decide)) (by decide)) (lv_sub hl [0, 1, 2, 3] rfl)
                exact L_108 _ 0 0 ls rfl (rg_w (rg_c (v := 0) (lo := 0) (hi := 0) (by decide)) (by decide)) (lv_sub hl [0, 1, 2, 3] rfl)
              · by_cases c_15 : x1 = 7
                · refine lv_tableIn (off := 103) (tgt := 106) hx hb dX7_status_3 (by rw [c_15]; decide) (by rw [c_15]; decide) (by rw [c_15]; decide) (by decide) ?_
                  refine lv_iconst (v := 0) hx hb dX7_status_106 (by decide) ?_
                  refine lv_istore_n (lv' := [(3, .int 0), (2, .int 0), (0, .ref (a 0)), (1, .int x1)]) hx hb dX7_status_107 rfl hl (by decide) rfl (fun ls hl => ?_)
                  have L_108 : ∀ (d : Nat) (z108_3 : Int32) (z108_2 : Int32) (ls : Array Slot), (16 - z108_3.toInt).toNat = d → rg z108_3 0 16 → lv_has ls 4 [(3, .int z108_3), (2, .int z108_2), (0, .ref (a 0)), (1, .int x1)] → W p l e ({ frames := 1, cells := 0, slots := 0, locals := 25 }) s m (([.ref (a 0), .int x1] : List Value).toArray) below meth c s.heap [] 0 0 Q (F0 m 108 ls []) := by
                    intro d
                    induction d using Nat.strongRecOn with
                    | ind d ih_108 =>
                    intro z108_3 z108_2 ls hd_108 hz108_3 hl
                    refine lv_iload_n hx hb dX7_status_108 rfl (lv_at hl 0 rfl) ?_
                    refine lv_aload_n hx hb dX7_status_109 rfl (lv_at hl 2 rfl) ?_
                    refine va_get (D := D) (ci := 7) (v := .int (gi (C 0) 11)) (C := RX7) (T := TX7) (N := 29) hx hb htg ig_7 hown hK hP 0 (oh_wg (Nat.lt_of_lt_of_le (by decide) hn) (sM_0 hT)) rfl 11 (by decide) (htg _ q_984) (fun _ h9 => h9) rfl dX7_status_110 ?_
                    refine lv_icmp_ge (tgt := 135) hx hb dX7_status_113 (by decide) (fun (c_16 : (gi (C 0) 11) ≤ z108_3) => ?_) (fun (c_16 : ¬ ((gi (C 0) 11) ≤ z108_3)) => ?_)
                    · refine lv_iload_n hx hb dX7_status_135 rfl (lv_at hl 1 rfl) ?_
                      rw [hQ]
                      exact W.iret (v := z108_2) hx hb hr (fun t ht hW => ⟨z108_2, rfl, trivial, ht⟩) (fun q h => by cases h) dX7_status_136
                    · refine lv_iload_n hx hb dX7_status_116 rfl (lv_at hl 1 rfl) ?_
                      refine lv_aload_n hx hb dX7_status_117 rfl (lv_at hl 2 rfl) ?_
                      refine va_get (D := D) (ci := 7) (v := .ref (a 10)) (C := RX7) (T := TX7) (N := 29) hx hb htg ig_7 hown hK hP 0 (oh_wg (Nat.lt_of_lt_of_le (by decide) hn) (sM_0 hT)) rfl 12 (by decide) (htg _ q_985) (fun _ h9 => h9) rfl dX7_status_118 ?_
                      refine lv_iload_n hx hb dX7_status_121 rfl (lv_at hl 0 rfl) ?_
                      have n_17 : vp_in z108_3 16 := (rg_in (rn_ltu (u' := 15) (Int32.not_le.mp c_16) hz108_3 (fM_0_11 hT0) (by decide)) (by decide))
                      have b_18 : (z108_3).toNatClampNeg < 16 := vp_lt n_17
                      refine th_aald hx hb hK hP 10 2 (Nat.lt_of_lt_of_le (by decide) hn) (sM_10 hT) rfl n_17 dX7_status_122 ?_
                      refine lv_iload_n hx hb dX7_status_123 rfl (lv_at hl 3 rfl) ?_
                      refine lv_iconst (v := 1) hx hb dX7_status_124 (by decide) ?_
                      refine lv_iadd hx hb dX7_status_125 ?_
                      have n_19 : vp_in (x1 + 1) 10 := (rg_in (rg_add (lo := 8) (hi := 8) (rn_eq c_15 (rg_c (v := 7) (lo := 7) (hi := 7) (by decide))) (rg_c (v := 1) (lo := 1) (hi := 1) (by decide)) (by decide)) (by decide))
                      refine th_iald hx hb hK hP (48 + (z108_3).toNatClampNeg) (lt_blk b_18 hn (by decide)) (hT.bbridge b_18).1 n_19 dX7_status_126 ?_
                      refine lv_iadd hx hb dX7_status_127 ?_
                      refine lv_istore_n (lv' := [(2, .int (z108_2 + (ga (C (48 + (z108_3).toNatClampNeg)) (x1 + 1).toNatClampNeg))), (3, .int z108_3), (0, .ref (a 0)), (1, .int x1)]) hx hb dX7_status_128 rfl hl (by decide) rfl (fun ls hl => ?_)
                      refine lv_iinc (v := z108_3 + 1) (lv' := [(3, .int (z108_3 + 1)), (2, .int (z108_2 + (ga (C (48 + (z108_3).toNatClampNeg)) (x1 + 1).toNatClampNeg))), (0, .ref (a 0)), (1, .int x1)]) hx hb dX7_status_129 hl (k := 1) rfl (by rfl) (by decide) rfl (fun ls hl => ?_)
                      refine lv_goto (tgt := 108) hx hb dX7_status_132 (by decide) ?_
                      exact ih_108 _ (hd_108 ▸ mu_up 16 (rn_ltu (u' := 15) (Int32.not_le.mp c_16) hz108_3 (fM_0_11 hT0) (by decide)) (by decide)) (z108_3 + 1) (z108_2 + (ga (C (48 + (z108_3).toNatClampNeg)) (x1 + 1).toNatClampNeg)) ls rfl (rg_w (rg_add (lo := 1) (hi := 16) (rn_ltu (u' := 15) (Int32.not_le.mp c_16) hz108_3 (fM_0_11 hT0) (by decide)) (rg_c (v := 1) (lo := 1) (hi := 1) (by decide)) (by decide)) (by decide)) (lv_sub hl [0, 1, 2, 3] rfl)
                  exact L_108 _ 0 0 ls rfl (rg_w (rg_c (v := 0) (lo := 0) (hi := 0) (by decide)) (by decide)) (lv_sub hl [0, 1, 2, 3] rfl)
                · refine lv_tableOut (tgt := 137) hx hb dX7_status_3 (by have h9 := And.intro (oh_ne c_1 (k := 0) (by decide)) (And.intro (oh_ne c_2 (k := 1) (by decide)) (And.intro (oh_ne c_3 (k := 2) (by decide)) (And.intro (oh_ne c_4 (k := 3) (by decide)) (And.intro (oh_ne c_5 (k := 4) (by decide)) (And.intro (oh_ne c_6 (k := 5) (by decide)) (And.intro (oh_ne c_10 (k := 6) (by decide)) (And.intro (oh_ne c_15 (k := 7) (by decide)) trivial))))))); omega) (by decide) ?_
                  refine lv_iload_n hx hb dX7_status_137 rfl (lv_at hl 2 rfl) ?_
                  refine lv_i2l (v := Int32.toInt64 x1) hx hb dX7_status_138 (by rfl) ?_
                  refine lv_ldc2 (v := 12) hx hb hown (htg _ q_1163) dX7_status_139 ?_
                  refine lv_ldc2 (v := 16) hx hb hown (htg _ q_1445) dX7_status_142 ?_
                  refine tq_S (As := [.long (Int32.toInt64 x1), .long 12, .long 16]) (rest := []) (ws := []) ⟨hx, hb, hml, hown, htg⟩ (c_X7_in l D E G (Int32.toInt64 x1) (12 : Int64) (16 : Int64)) (va_cwS 3 htg (oh_gS q_1066 q_1067 q_73 q_1068) rfl rfl rfl pdX7_in ⟨Nat.le_of_ble_eq_true rfl, Nat.le_of_ble_eq_true rfl⟩) hK va_nil hG hS rfl hl.1 rfl (Nat.le_of_ble_eq_true rfl) dX7_status_145 ⟨Nat.le_of_ble_eq_true rfl, Nat.le_of_ble_eq_true rfl⟩ (fun r_20 hq_21 => ?_)
                  refine lv_if_eq (tgt := 163) hx hb dX7_status_148 (by decide) (fun (c_22 : r_20 = 0) => ?_) (fun (c_22 : ¬ (r_20 = 0)) => ?_)
                  · have u_23 := hq_21.2.2 c_22
                    refine lv_iconst (v := (-1)) hx hb dX7_status_163 (by decide) ?_
                    rw [hQ]
                    exact W.iret (v := (-1)) hx hb hr (fun t ht hW => ⟨(-1), rfl, trivial, ht⟩) (fun q h => by cases h) dX7_status_164
                  · have u_24 := hq_21.2.1 c_22
                    refine lv_aload_n hx hb dX7_status_151 rfl (lv_at hl 1 rfl) ?_
                    refine va_get (D := D) (ci := 7) (v := .ref (a 8)) (C := RX7) (T := TX7) (N := 29) hx hb htg ig_7 hown hK hP 0 (oh_wg (Nat.lt_of_lt_of_le (by decide) hn) (sM_0 hT)) rfl 8 (by decide) (htg _ q_981) (fun _ h9 => h9) rfl dX7_status_152 ?_
                    refine lv_iload_n hx hb dX7_status_155 rfl (lv_at hl 2 rfl) ?_
                    refine lv_bipush (v := 10) hx hb dX7_status_156 (by decide) ?_
                    refine lv_isub hx hb dX7_status_158 ?_
                    have n_25 : vp_in (x1 - 10) 8 := (rg_in (rg_sub (lo := 2) (hi := 6) (rg_il (rgL_i (rg_il (rnL_leu u_24.2 (rnL_lel u_24.1 (rgL_c (v := 12) (lo := 12) (hi := 12) (by decide)) (rgL_i (rg_any _))) (rgL_c (v := 16) (lo := 16) (hi := 16) (by decide)))))) (rg_c (v := 10) (lo := 10) (hi := 10) (by decide)) (by decide)) (by decide))
                    refine th_iald hx hb hK hP 8 (Nat.lt_of_lt_of_le (by decide) hn) (sM_8 hT) n_25 dX7_status_159 ?_
                    refine lv_goto (tgt := 164) hx hb dX7_status_160 (by decide) ?_
                    rw [hQ]
                    exact W.iret (v := ga (C 8) (x1 - 10).toNatClampNeg) hx hb hr (fun t ht hW => ⟨ga (C 8) (x1 - 10).toNatClampNeg, rfl, trivial, ht⟩) (fun q h => by cases h) dX7_status_164
theorem bg_dX7_isWord_0 : bysAt cX7_isWord 0 [42, 180, 0, 153, 4, 160, 0, 19, 42, 180, 0, 143, 42, 180, 0, 146, 100, 43, 182, 0, 171, 159, 0, 5, 3, 172] := bysAt_of (by decide +kernel)
theorem dX7_isWord_0 : decode cX7_isWord 0 = .ok (.aload_n 0, 1) := o_42 (bg_dX7_isWord_0 0 42 rfl)
theorem dX7_isWord_1 : decode cX7_isWord 1 = .ok (.getfield 153, 3) := o_180 (bg_dX7_isWord_0 1 180 rfl) (bg_dX7_isWord_0 2 0 rfl) (bg_dX7_isWord_0 3 153 rfl)
theorem dX7_isWord_4 : decode cX7_isWord 4 = .ok (.iconst 1, 1) := o_4 (bg_dX7_isWord_0 4 4 rfl)
theorem dX7_isWord_5 : decode cX7_isWord 5 = .ok (.if_icmp .ne 19, 3) := o_160 (bg_dX7_isWord_0 5 160 rfl) (bg_dX7_isWord_0 6 0 rfl) (bg_dX7_isWord_0 7 19 rfl) (by decide +kernel)
theorem dX7_isWord_8 : decode cX7_isWord 8 = .ok (.aload_n 0, 1) := o_42 (bg_dX7_isWord_0 8 42 rfl)
theorem dX7_isWord_9 : decode cX7_isWord 9 = .ok (.getfield 143, 3) := o_180 (bg_dX7_isWord_0 9 180 rfl) (bg_dX7_isWord_0 10 0 rfl) (bg_dX7_isWord_0 11 143 rfl)
theorem dX7_isWord_12 : decode cX7_isWord 12 = .ok (.aload_n 0, 1) := o_42 (bg_dX7_isWord_0 12 42 rfl)
theorem dX7_isWord_13 : decode cX7_isWord 13 = .ok (.getfield 146, 3) := o_180 (bg_dX7_isWord_0 13 180 rfl) (bg_dX7_isWord_0 14 0 rfl) (bg_dX7_isWord_0 15 146 rfl)
theorem dX7_isWord_16 : decode cX7_isWord 16 = .ok (.isub, 1) := o_100 (bg_dX7_isWord_0 16 100 rfl)
theorem dX7_isWord_17 : decode cX7_isWord 17 = .ok (.aload_n 1, 1) := o_43 (bg_dX7_isWord_0 17 43 rfl)
theorem dX7_isWord_18 : decode cX7_isWord 18 = .ok (.invokevirtual 171, 3) := o_182 (bg_dX7_isWord_0 18 182 rfl) (bg_dX7_isWord_0 19 0 rfl) (bg_dX7_isWord_0 20 171 rfl)
theorem dX7_isWord_21 : decode cX7_isWord 21 = .ok (.if_icmp .eq 5, 3) := o_159 (bg_dX7_isWord_0 21 159 rfl) (bg_dX7_isWord_0 22 0 rfl) (bg_dX7_isWord_0 23 5 rfl) (by decide +kernel)
theorem dX7_isWord_24 : decode cX7_isWord 24 = .ok (.iconst 0, 1) := o_3 (bg_dX7_isWord_0 24 3 rfl)
theorem dX7_isWord_25 : decode cX7_isWord 25 = .ok (.ireturn, 1) := o_172 (bg_dX7_isWord_0 25 172 rfl)
theorem bg_dX7_isWord_26 : bysAt cX7_isWord 26 [3, 61, 28, 43, 182, 0, 171, 162, 0, 30, 42, 180, 0, 31, 42, 180, 0, 146, 28, 96, 46, 43] := bysAt_of (by decide +kernel)
theorem dX7_isWord_26 : decode cX7_isWord 26 = .ok (.iconst 0, 1) := o_3 (bg_dX7_isWord_26 0 3 rfl)
theorem dX7_isWord_27 : decode cX7_isWord 27 = .ok (.istore_n 2, 1) := o_61 (bg_dX7_isWord_26 1 61 rfl)
theorem dX7_isWord_28 : decode cX7_isWord 28 = .ok (.iload_n 2, 1) := o_28 (bg_dX7_isWord_26 2 28 rfl)
theorem dX7_isWord_29 : decode cX7_isWord 29 = .ok (.aload_n 1, 1) := o_43 (bg_dX7_isWord_26 3 43 rfl)
theorem dX7_isWord_30 : decode cX7_isWord 30 = .ok (.invokevirtual 171, 3) := o_182 (bg_dX7_isWord_26 4 182 rfl) (bg_dX7_isWord_26 5 0 rfl) (bg_dX7_isWord_26 6 171 rfl)
theorem dX7_isWord_33 : decode cX7_isWord 33 = .ok (.if_icmp .ge 30, 3) := o_162 (bg_dX7_isWord_26 7 162 rfl) (bg_dX7_isWord_26 8 0 rfl) (bg_dX7_isWord_26 9 30 rfl) (by decide +kernel)
theorem dX7_isWord_36 : decode cX7_isWord 36 = .ok (.aload_n 0, 1) := o_42 (bg_dX7_isWord_26 10 42 rfl)
theorem dX7_isWord_37 : decode cX7_isWord 37 = .ok (.getfield 31, 3) := o_180 (bg_dX7_isWord_26 11 180 rfl) (bg_dX7_isWord_26 12 0 rfl) (bg_dX7_isWord_26 13 31 rfl)
theorem dX7_isWord_40 : decode cX7_isWord 40 = .ok (.aload_n 0, 1) := o_42 (bg_dX7_isWord_26 14 42 rfl)
theorem dX7_isWord_41 : decode cX7_isWord 41 = .ok (.getfield 146, 3) := o_180 (bg_dX7_isWord_26 15 180 rfl) (bg_dX7_isWord_26 16 0 rfl) (bg_dX7_isWord_26 17 146 rfl)
theorem dX7_isWord_44 : decode cX7_isWord 44 = .ok (.iload_n 2, 1) := o_28 (bg_dX7_isWord_26 18 28 rfl)
theorem dX7_isWord_45 : decode cX7_isWord 45 = .ok (.iadd, 1) := o_96 (bg_dX7_isWord_26 19 96 rfl)
theorem dX7_isWord_46 : decode cX7_isWord 46 = .ok (.iaload, 1) := o_46 (bg_dX7_isWord_26 20 46 rfl)
theorem dX7_isWord_47 : decode cX7_isWord 47 = .ok (.aload_n 1, 1) := o_43 (bg_dX7_isWord_26 21 43 rfl)
theorem bg_dX7_isWord_48 : bysAt cX7_isWord 48 [28, 182, 0, 177, 159, 0, 5, 3, 172, 132, 2, 1, 167, 255, 224, 4, 172] := bysAt_of (by decide +kernel)
theorem dX7_isWord_48 : decode cX7_isWord 48 = .ok (.iload_n 2, 1) := o_28 (bg_dX7_isWord_48 0 28 rfl)
theorem dX7_isWord_49 : decode cX7_isWord 49 = .ok (.invokevirtual 177, 3) := o_182 (bg_dX7_isWord_48 1 182 rfl) (bg_dX7_isWord_48 2 0 rfl) (bg_dX7_isWord_48 3 177 rfl)
theorem dX7_isWord_52 : decode cX7_isWord 52 = .ok (.if_icmp .eq 5, 3) := o_159 (bg_dX7_isWord_48 4 159 rfl) (bg_dX7_isWord_48 5 0 rfl) (bg_dX7_isWord_48 6 5 rfl) (by decide +kernel)
theorem dX7_isWord_55 : decode cX7_isWord 55 = .ok (.iconst 0, 1) := o_3 (bg_dX7_isWord_48 7 3 rfl)
theorem dX7_isWord_56 : decode cX7_isWord 56 = .ok (.ireturn, 1) := o_172 (bg_dX7_isWord_48 8 172 rfl)
theorem dX7_isWord_60 : decode cX7_isWord 60 = .ok (.goto (-32), 3) := o_167 (bg_dX7_isWord_48 12 167 rfl) (bg_dX7_isWord_48 13 255 rfl) (bg_dX7_isWord_48 14 224 rfl) (by decide +kernel)
theorem dX7_isWord_63 : decode cX7_isWord 63 = .ok (.iconst 1, 1) := o_4 (bg_dX7_isWord_48 15 4 rfl)
theorem dX7_isWord_64 : decode cX7_isWord 64 = .ok (.ireturn, 1) := o_172 (bg_dX7_isWord_48 16 172 rfl)
theorem bg_dX7_look_0 : bysAt cX7_look 0 [42, 180, 0, 143, 42, 180, 0, 140, 162, 0, 30, 42, 180, 0, 31, 42, 180, 0, 143, 46, 16, 32, 160, 0, 16, 42, 89] := bysAt_of (by decide +kernel)
theorem dX7_look_0 : decode cX7_look 0 = .ok (.aload_n 0, 1) := o_42 (bg_dX7_look_0 0 42 rfl)
theorem dX7_look_1 : decode cX7_look 1 = .ok (.getfield 143, 3) := o_180 (bg_dX7_look_0 1 180 rfl) (bg_dX7_look_0 2 0 rfl) (bg_dX7_look_0 3 143 rfl)
theorem dX7_look_4 : decode cX7_look 4 = .ok (.aload_n 0, 1) := o_42 (bg_dX7_look_0 4 42 rfl)
theorem dX7_look_5 : decode cX7_look 5 = .ok (.getfield 140, 3) := o_180 (bg_dX7_look_0 5 180 rfl) (bg_dX7_look_0 6 0 rfl) (bg_dX7_look_0 7 140 rfl)
theorem dX7_look_8 : decode cX7_look 8 = .ok (.if_icmp .ge 30, 3) := o_162 (bg_dX7_look_0 8 162 rfl) (bg_dX7_look_0 9 0 rfl) (bg_dX7_look_0 10 30 rfl) (by decide +kernel)
theorem dX7_look_11 : decode cX7_look 11 = .ok (.aload_n 0, 1) := o_42 (bg_dX7_look_0 11 42 rfl)
theorem dX7_look_12 : decode cX7_look 12 = .ok (.getfield 31, 3) := o_180 (bg_dX7_look_0 12 180 rfl) (bg_dX7_look_0 13 0 rfl) (bg_dX7_look_0 14 31 rfl)
theorem dX7_look_15 : decode cX7_look 15 = .ok (.aload_n 0, 1) := o_42 (bg_dX7_look_0 15 42 rfl)
theorem dX7_look_16 : decode cX7_look 16 = .ok (.getfield 143, 3) := o_180 (bg_dX7_look_0 16 180 rfl) (bg_dX7_look_0 17 0 rfl) (bg_dX7_look_0 18 143 rfl)
theorem dX7_look_19 : decode cX7_look 19 = .ok (.iaload, 1) := o_46 (bg_dX7_look_0 19 46 rfl)
theorem dX7_look_20 : decode cX7_look 20 = .ok (.bipush 32, 2) := o_16 (bg_dX7_look_0 20 16 rfl) (bg_dX7_look_0 21 32 rfl) (by decide +kernel)
theorem dX7_look_22 : decode cX7_look 22 = .ok (.if_icmp .ne 16, 3) := o_160 (bg_dX7_look_0 22 160 rfl) (bg_dX7_look_0 23 0 rfl) (bg_dX7_look_0 24 16 rfl) (by decide +kernel)
theorem dX7_look_25 : decode cX7_look 25 = .ok (.aload_n 0, 1) := o_42 (bg_dX7_look_0 25 42 rfl)
theorem dX7_look_26 : decode cX7_look 26 = .ok (.dup, 1) := o_89 (bg_dX7_look_0 26 89 rfl)
theorem bg_dX7_look_27 : bysAt cX7_look 27 [180, 0, 143, 4, 96, 181, 0, 143, 167, 255, 221, 42, 42, 180, 0, 143, 181, 0, 146, 42, 9, 181, 0, 149, 42, 180, 0, 143] := bysAt_of (by decide +kernel)
theorem dX7_look_27 : decode cX7_look 27 = .ok (.getfield 143, 3) := o_180 (bg_dX7_look_27 0 180 rfl) (bg_dX7_look_27 1 0 rfl) (bg_dX7_look_27 2 143 rfl)
theorem dX7_look_30 : decode cX7_look 30 = .ok (.iconst 1, 1) := o_4 (bg_dX7_look_27 3 4 rfl)
theorem dX7_look_31 : decode cX7_look 31 = .ok (.iadd, 1) := o_96 (bg_dX7_look_27 4 96 rfl)
theorem dX7_look_32 : decode cX7_look 32 = .ok (.putfield 143, 3) := o_181 (bg_dX7_look_27 5 181 rfl) (bg_dX7_look_27 6 0 rfl) (bg_dX7_look_27 7 143 rfl)
theorem dX7_look_35 : decode cX7_look 35 = .ok (.goto (-35), 3) := o_167 (bg_dX7_look_27 8 167 rfl) (bg_dX7_look_27 9 255 rfl) (bg_dX7_look_27 10 221 rfl) (by decide +kernel)
theorem dX7_look_38 : decode cX7_look 38 = .ok (.aload_n 0, 1) := o_42 (bg_dX7_look_27 11 42 rfl)
theorem dX7_look_39 : decode cX7_look 39 = .ok (.aload_n 0, 1) := o_42 (bg_dX7_look_27 12 42 rfl)
theorem dX7_look_40 : decode cX7_look 40 = .ok (.getfield 143, 3) := o_180 (bg_dX7_look_27 13 180 rfl) (bg_dX7_look_27 14 0 rfl) (bg_dX7_look_27 15 143 rfl)
theorem dX7_look_43 : decode cX7_look 43 = .ok (.putfield 146, 3) := o_181 (bg_dX7_look_27 16 181 rfl) (bg_dX7_look_27 17 0 rfl) (bg_dX7_look_27 18 146 rfl)
theorem dX7_look_46 : decode cX7_look 46 = .ok (.aload_n 0, 1) := o_42 (bg_dX7_look_27 19 42 rfl)
theorem dX7_look_47 : decode cX7_look 47 = .ok (.lconst 0, 1) := o_9 (bg_dX7_look_27 20 9 rfl)
theorem dX7_look_48 : decode cX7_look 48 = .ok (.putfield 149, 3) := o_181 (bg_dX7_look_27 21 181 rfl) (bg_dX7_look_27 22 0 rfl) (bg_dX7_look_27 23 149 rfl)
theorem dX7_look_51 : decode cX7_look 51 = .ok (.aload_n 0, 1) := o_42 (bg_dX7_look_27 24 42 rfl)
theorem dX7_look_52 : decode cX7_look 52 = .ok (.getfield 143, 3) := o_180 (bg_dX7_look_27 25 180 rfl) (bg_dX7_look_27 26 0 rfl) (bg_dX7_look_27 27 143 rfl)
theorem bg_dX7_look_55 : bysAt cX7_look 55 [42, 180, 0, 140, 160, 0, 11, 42, 3, 181, 0, 153, 167, 0, 200, 42, 180, 0, 31, 42, 180, 0, 143, 46, 184, 0, 156, 153, 0, 47] := bysAt_of (by decide +kernel)
theorem dX7_look_55 : decode cX7_look 55 = .ok (.aload_n 0, 1) := o_42 (bg_dX7_look_55 0 42 rfl)
theorem dX7_look_56 : decode cX7_look 56 = .ok (.getfield 140, 3) := o_180 (bg_dX7_look_55 1 180 rfl) (bg_dX7_look_55 2 0 rfl) (bg_dX7_look_55 3 140 rfl)
theorem dX7_look_59 : decode cX7_look 59 = .ok (.if_icmp .ne 11, 3) := o_160 (bg_dX7_look_55 4 160 rfl) (bg_dX7_look_55 5 0 rfl) (bg_dX7_look_55 6 11 rfl) (by decide +kernel)
theorem dX7_look_62 : decode cX7_look 62 = .ok (.aload_n 0, 1) := o_42 (bg_dX7_look_55 7 42 rfl)
theorem dX7_look_63 : decode cX7_look 63 = .ok (.iconst 0, 1) := o_3 (bg_dX7_look_55 8 3 rfl)
theorem dX7_look_64 : decode cX7_look 64 = .ok (.putfield 153, 3) := o_181 (bg_dX7_look_55 9 181 rfl) (bg_dX7_look_55 10 0 rfl) (bg_dX7_look_55 11 153 rfl)
theorem dX7_look_67 : decode cX7_look 67 = .ok (.goto 200, 3) := o_167 (bg_dX7_look_55 12 167 rfl) (bg_dX7_look_55 13 0 rfl) (bg_dX7_look_55 14 200 rfl) (by decide +kernel)
theorem dX7_look_70 : decode cX7_look 70 = .ok (.aload_n 0, 1) := o_42 (bg_dX7_look_55 15 42 rfl)
theorem dX7_look_71 : decode cX7_look 71 = .ok (.getfield 31, 3) := o_180 (bg_dX7_look_55 16 180 rfl) (bg_dX7_look_55 17 0 rfl) (bg_dX7_look_55 18 31 rfl)
theorem dX7_look_74 : decode cX7_look 74 = .ok (.aload_n 0, 1) := o_42 (bg_dX7_look_55 19 42 rfl)
theorem dX7_look_75 : decode cX7_look 75 = .ok (.getfield 143, 3) := o_180 (bg_dX7_look_55 20 180 rfl) (bg_dX7_look_55 21 0 rfl) (bg_dX7_look_55 22 143 rfl)
theorem dX7_look_78 : decode cX7_look 78 = .ok (.iaload, 1) := o_46 (bg_dX7_look_55 23 46 rfl)
theorem dX7_look_79 : decode cX7_look 79 = .ok (.invokestatic 156, 3) := o_184 (bg_dX7_look_55 24 184 rfl) (bg_dX7_look_55 25 0 rfl) (bg_dX7_look_55 26 156 rfl)
theorem dX7_look_82 : decode cX7_look 82 = .ok (.ifCond .eq 47, 3) := o_153 (bg_dX7_look_55 27 153 rfl) (bg_dX7_look_55 28 0 rfl) (bg_dX7_look_55 29 47 rfl) (by decide +kernel)
theorem bg_dX7_look_85 : bysAt cX7_look 85 [42, 4, 181, 0, 153, 42, 180, 0, 143, 42, 180, 0, 140, 162, 0, 169, 42, 180, 0, 31, 42, 180, 0, 143, 46, 184, 0, 156] := bysAt_of (by decide +kernel)
theorem dX7_look_85 : decode cX7_look 85 = .ok (.aload_n 0, 1) := o_42 (bg_dX7_look_85 0 42 rfl)
theorem dX7_look_86 : decode cX7_look 86 = .ok (.iconst 1, 1) := o_4 (bg_dX7_look_85 1 4 rfl)
theorem dX7_look_87 : decode cX7_look 87 = .ok (.putfield 153, 3) := o_181 (bg_dX7_look_85 2 181 rfl) (bg_dX7_look_85 3 0 rfl) (bg_dX7_look_85 4 153 rfl)
theorem dX7_look_90 : decode cX7_look 90 = .ok (.aload_n 0, 1) := o_42 (bg_dX7_look_85 5 42 rfl)
theorem dX7_look_91 : decode cX7_look 91 = .ok (.getfield 143, 3) := o_180 (bg_dX7_look_85 6 180 rfl) (bg_dX7_look_85 7 0 rfl) (bg_dX7_look_85 8 143 rfl)
theorem dX7_look_94 : decode cX7_look 94 = .ok (.aload_n 0, 1) := o_42 (bg_dX7_look_85 9 42 rfl)
theorem dX7_look_95 : decode cX7_look 95 = .ok (.getfield 140, 3) := o_180 (bg_dX7_look_85 10 180 rfl) (bg_dX7_look_85 11 0 rfl) (bg_dX7_look_85 12 140 rfl)
theorem dX7_look_98 : decode cX7_look 98 = .ok (.if_icmp .ge 169, 3) := o_162 (bg_dX7_look_85 13 162 rfl) (bg_dX7_look_85 14 0 rfl) (bg_dX7_look_85 15 169 rfl) (by decide +kernel)
theorem dX7_look_101 : decode cX7_look 101 = .ok (.aload_n 0, 1) := o_42 (bg_dX7_look_85 16 42 rfl)
theorem dX7_look_102 : decode cX7_look 102 = .ok (.getfield 31, 3) := o_180 (bg_dX7_look_85 17 180 rfl) (bg_dX7_look_85 18 0 rfl) (bg_dX7_look_85 19 31 rfl)
theorem dX7_look_105 : decode cX7_look 105 = .ok (.aload_n 0, 1) := o_42 (bg_dX7_look_85 20 42 rfl)
theorem dX7_look_106 : decode cX7_look 106 = .ok (.getfield 143, 3) := o_180 (bg_dX7_look_85 21 180 rfl) (bg_dX7_look_85 22 0 rfl) (bg_dX7_look_85 23 143 rfl)
theorem dX7_look_109 : decode cX7_look 109 = .ok (.iaload, 1) := o_46 (bg_dX7_look_85 24 46 rfl)
theorem dX7_look_110 : decode cX7_look 110 = .ok (.invokestatic 156, 3) := o_184 (bg_dX7_look_85 25 184 rfl) (bg_dX7_look_85 26 0 rfl) (bg_dX7_look_85 27 156 rfl)
theorem bg_dX7_look_113 : bysAt cX7_look 113 [153, 0, 154, 42, 89, 180, 0, 143, 4, 96, 181, 0, 143, 167, 255, 220, 42, 180, 0, 31, 42, 180, 0, 143, 46, 184, 0, 159] := bysAt_of (by decide +kernel)
theorem dX7_look_113 : decode cX7_look 113 = .ok (.ifCond .eq 154, 3) := o_153 (bg_dX7_look_113 0 153 rfl) (bg_dX7_look_113 1 0 rfl) (bg_dX7_look_113 2 154 rfl) (by decide +kernel)
theorem dX7_look_116 : decode cX7_look 116 = .ok (.aload_n 0, 1) := o_42 (bg_dX7_look_113 3 42 rfl)
theorem dX7_look_117 : decode cX7_look 117 = .ok (.dup, 1) := o_89 (bg_dX7_look_113 4 89 rfl)
theorem dX7_look_118 : decode cX7_look 118 = .ok (.getfield 143, 3) := o_180 (bg_dX7_look_113 5 180 rfl) (bg_dX7_look_113 6 0 rfl) (bg_dX7_look_113 7 143 rfl)
theorem dX7_look_121 : decode cX7_look 121 = .ok (.iconst 1, 1) := o_4 (bg_dX7_look_113 8 4 rfl)
theorem dX7_look_122 : decode cX7_look 122 = .ok (.iadd, 1) := o_96 (bg_dX7_look_113 9 96 rfl)
theorem dX7_look_123 : decode cX7_look 123 = .ok (.putfield 143, 3) := o_181 (bg_dX7_look_113 10 181 rfl) (bg_dX7_look_113 11 0 rfl) (bg_dX7_look_113 12 143 rfl)
theorem dX7_look_126 : decode cX7_look 126 = .ok (.goto (-36), 3) := o_167 (bg_dX7_look_113 13 167 rfl) (bg_dX7_look_113 14 255 rfl) (bg_dX7_look_113 15 220 rfl) (by decide +kernel)
theorem dX7_look_129 : decode cX7_look 129 = .ok (.aload_n 0, 1) := o_42 (bg_dX7_look_113 16 42 rfl)
theorem dX7_look_130 : decode cX7_look 130 = .ok (.getfield 31, 3) := o_180 (bg_dX7_look_113 17 180 rfl) (bg_dX7_look_113 18 0 rfl) (bg_dX7_look_113 19 31 rfl)
theorem dX7_look_133 : decode cX7_look 133 = .ok (.aload_n 0, 1) := o_42 (bg_dX7_look_113 20 42 rfl)
theorem dX7_look_134 : decode cX7_look 134 = .ok (.getfield 143, 3) := o_180 (bg_dX7_look_113 21 180 rfl) (bg_dX7_look_113 22 0 rfl) (bg_dX7_look_113 23 143 rfl)
theorem dX7_look_137 : decode cX7_look 137 = .ok (.iaload, 1) := o_46 (bg_dX7_look_113 24 46 rfl)
theorem dX7_look_138 : decode cX7_look 138 = .ok (.invokestatic 159, 3) := o_184 (bg_dX7_look_113 25 184 rfl) (bg_dX7_look_113 26 0 rfl) (bg_dX7_look_113 27 159 rfl)
theorem bg_dX7_look_141 : bysAt cX7_look 141 [153, 0, 93, 42, 5, 181, 0, 153, 42, 180, 0, 143, 42, 180, 0, 140, 162, 0, 110, 42, 180, 0, 31, 42, 180, 0, 143, 46] := bysAt_of (by decide +kernel)
theorem dX7_look_141 : decode cX7_look 141 = .ok (.ifCond .eq 93, 3) := o_153 (bg_dX7_look_141 0 153 rfl) (bg_dX7_look_141 1 0 rfl) (bg_dX7_look_141 2 93 rfl) (by decide +kernel)
theorem dX7_look_144 : decode cX7_look 144 = .ok (.aload_n 0, 1) := o_42 (bg_dX7_look_141 3 42 rfl)
theorem dX7_look_145 : decode cX7_look 145 = .ok (.iconst 2, 1) := o_5 (bg_dX7_look_141 4 5 rfl)
theorem dX7_look_146 : decode cX7_look 146 = .ok (.putfield 153, 3) := o_181 (bg_dX7_look_141 5 181 rfl) (bg_dX7_look_141 6 0 rfl) (bg_dX7_look_141 7 153 rfl)
theorem dX7_look_149 : decode cX7_look 149 = .ok (.aload_n 0, 1) := o_42 (bg_dX7_look_141 8 42 rfl)
theorem dX7_look_150 : decode cX7_look 150 = .ok (.getfield 143, 3) := o_180 (bg_dX7_look_141 9 180 rfl) (bg_dX7_look_141 10 0 rfl) (bg_dX7_look_141 11 143 rfl)
theorem dX7_look_153 : decode cX7_look 153 = .ok (.aload_n 0, 1) := o_42 (bg_dX7_look_141 12 42 rfl)
theorem dX7_look_154 : decode cX7_look 154 = .ok (.getfield 140, 3) := o_180 (bg_dX7_look_141 13 180 rfl) (bg_dX7_look_141 14 0 rfl) (bg_dX7_look_141 15 140 rfl)
theorem dX7_look_157 : decode cX7_look 157 = .ok (.if_icmp .ge 110, 3) := o_162 (bg_dX7_look_141 16 162 rfl) (bg_dX7_look_141 17 0 rfl) (bg_dX7_look_141 18 110 rfl) (by decide +kernel)
theorem dX7_look_160 : decode cX7_look 160 = .ok (.aload_n 0, 1) := o_42 (bg_dX7_look_141 19 42 rfl)
theorem dX7_look_161 : decode cX7_look 161 = .ok (.getfield 31, 3) := o_180 (bg_dX7_look_141 20 180 rfl) (bg_dX7_look_141 21 0 rfl) (bg_dX7_look_141 22 31 rfl)
theorem dX7_look_164 : decode cX7_look 164 = .ok (.aload_n 0, 1) := o_42 (bg_dX7_look_141 23 42 rfl)
theorem dX7_look_165 : decode cX7_look 165 = .ok (.getfield 143, 3) := o_180 (bg_dX7_look_141 24 180 rfl) (bg_dX7_look_141 25 0 rfl) (bg_dX7_look_141 26 143 rfl)
theorem dX7_look_168 : decode cX7_look 168 = .ok (.iaload, 1) := o_46 (bg_dX7_look_141 27 46 rfl)
theorem bg_dX7_look_169 : bysAt cX7_look 169 [184, 0, 159, 153, 0, 95, 42, 42, 180, 0, 143, 42, 180, 0, 146, 100, 6, 162, 0, 29, 42, 180, 0, 149, 20, 0, 162, 105] := bysAt_of (by decide +kernel)
theorem dX7_look_169 : decode cX7_look 169 = .ok (.invokestatic 159, 3) := o_184 (bg_dX7_look_169 0 184 rfl) (bg_dX7_look_169 1 0 rfl) (bg_dX7_look_169 2 159 rfl)
theorem dX7_look_172 : decode cX7_look 172 = .ok (.ifCond .eq 95, 3) := o_153 (bg_dX7_look_169 3 153 rfl) (bg_dX7_look_169 4 0 rfl) (bg_dX7_look_169 5 95 rfl) (by decide +kernel)
theorem dX7_look_175 : decode cX7_look 175 = .ok (.aload_n 0, 1) := o_42 (bg_dX7_look_169 6 42 rfl)
theorem dX7_look_176 : decode cX7_look 176 = .ok (.aload_n 0, 1) := o_42 (bg_dX7_look_169 7 42 rfl)
theorem dX7_look_177 : decode cX7_look 177 = .ok (.getfield 143, 3) := o_180 (bg_dX7_look_169 8 180 rfl) (bg_dX7_look_169 9 0 rfl) (bg_dX7_look_169 10 143 rfl)
theorem dX7_look_180 : decode cX7_look 180 = .ok (.aload_n 0, 1) := o_42 (bg_dX7_look_169 11 42 rfl)
theorem dX7_look_181 : decode cX7_look 181 = .ok (.getfield 146, 3) := o_180 (bg_dX7_look_169 12 180 rfl) (bg_dX7_look_169 13 0 rfl) (bg_dX7_look_169 14 146 rfl)
theorem dX7_look_184 : decode cX7_look 184 = .ok (.isub, 1) := o_100 (bg_dX7_look_169 15 100 rfl)
theorem dX7_look_185 : decode cX7_look 185 = .ok (.iconst 3, 1) := o_6 (bg_dX7_look_169 16 6 rfl)
theorem dX7_look_186 : decode cX7_look 186 = .ok (.if_icmp .ge 29, 3) := o_162 (bg_dX7_look_169 17 162 rfl) (bg_dX7_look_169 18 0 rfl) (bg_dX7_look_169 19 29 rfl) (by decide +kernel)
theorem dX7_look_189 : decode cX7_look 189 = .ok (.aload_n 0, 1) := o_42 (bg_dX7_look_169 20 42 rfl)
theorem dX7_look_190 : decode cX7_look 190 = .ok (.getfield 149, 3) := o_180 (bg_dX7_look_169 21 180 rfl) (bg_dX7_look_169 22 0 rfl) (bg_dX7_look_169 23 149 rfl)
theorem dX7_look_193 : decode cX7_look 193 = .ok (.ldc2_w 162, 3) := o_20 (bg_dX7_look_169 24 20 rfl) (bg_dX7_look_169 25 0 rfl) (bg_dX7_look_169 26 162 rfl)
theorem dX7_look_196 : decode cX7_look 196 = .ok (.lmul, 1) := o_105 (bg_dX7_look_169 27 105 rfl)
theorem bg_dX7_look_197 : bysAt cX7_look 197 [42, 180, 0, 31, 42, 180, 0, 143, 46, 133, 97, 20, 0, 164, 101, 167, 0, 6, 20, 0, 166, 181, 0, 149, 42, 89] := bysAt_of (by decide +kernel)
theorem dX7_look_197 : decode cX7_look 197 = .ok (.aload_n 0, 1) := o_42 (bg_dX7_look_197 0 42 rfl)
theorem dX7_look_198 : decode cX7_look 198 = .ok (.getfield 31, 3) := o_180 (bg_dX7_look_197 1 180 rfl) (bg_dX7_look_197 2 0 rfl) (bg_dX7_look_197 3 31 rfl)
theorem dX7_look_201 : decode cX7_look 201 = .ok (.aload_n 0, 1) := o_42 (bg_dX7_look_197 4 42 rfl)
theorem dX7_look_202 : decode cX7_look 202 = .ok (.getfield 143, 3) := o_180 (bg_dX7_look_197 5 180 rfl) (bg_dX7_look_197 6 0 rfl) (bg_dX7_look_197 7 143 rfl)
theorem dX7_look_205 : decode cX7_look 205 = .ok (.iaload, 1) := o_46 (bg_dX7_look_197 8 46 rfl)
theorem dX7_look_206 : decode cX7_look 206 = .ok (.i2l, 1) := o_133 (bg_dX7_look_197 9 133 rfl)
theorem dX7_look_207 : decode cX7_look 207 = .ok (.ladd, 1) := o_97 (bg_dX7_look_197 10 97 rfl)
theorem dX7_look_208 : decode cX7_look 208 = .ok (.ldc2_w 164, 3) := o_20 (bg_dX7_look_197 11 20 rfl) (bg_dX7_look_197 12 0 rfl) (bg_dX7_look_197 13 164 rfl)
theorem dX7_look_211 : decode cX7_look 211 = .ok (.lsub, 1) := o_101 (bg_dX7_look_197 14 101 rfl)
theorem dX7_look_212 : decode cX7_look 212 = .ok (.goto 6, 3) := o_167 (bg_dX7_look_197 15 167 rfl) (bg_dX7_look_197 16 0 rfl) (bg_dX7_look_197 17 6 rfl) (by decide +kernel)
theorem dX7_look_215 : decode cX7_look 215 = .ok (.ldc2_w 166, 3) := o_20 (bg_dX7_look_197 18 20 rfl) (bg_dX7_look_197 19 0 rfl) (bg_dX7_look_197 20 166 rfl)
theorem dX7_look_218 : decode cX7_look 218 = .ok (.putfield 149, 3) := o_181 (bg_dX7_look_197 21 181 rfl) (bg_dX7_look_197 22 0 rfl) (bg_dX7_look_197 23 149 rfl)
theorem dX7_look_221 : decode cX7_look 221 = .ok (.aload_n 0, 1) := o_42 (bg_dX7_look_197 24 42 rfl)
theorem dX7_look_222 : decode cX7_look 222 = .ok (.dup, 1) := o_89 (bg_dX7_look_197 25 89 rfl)
theorem bg_dX7_look_223 : bysAt cX7_look 223 [180, 0, 143, 4, 96, 181, 0, 143, 167, 255, 174, 42, 42, 180, 0, 31, 42, 180, 0, 143, 46, 16, 59, 160, 0, 7, 6] := bysAt_of (by decide +kernel)
theorem dX7_look_223 : decode cX7_look 223 = .ok (.getfield 143, 3) := o_180 (bg_dX7_look_223 0 180 rfl) (bg_dX7_look_223 1 0 rfl) (bg_dX7_look_223 2 143 rfl)
theorem dX7_look_226 : decode cX7_look 226 = .ok (.iconst 1, 1) := o_4 (bg_dX7_look_223 3 4 rfl)
theorem dX7_look_227 : decode cX7_look 227 = .ok (.iadd, 1) := o_96 (bg_dX7_look_223 4 96 rfl)
theorem dX7_look_228 : decode cX7_look 228 = .ok (.putfield 143, 3) := o_181 (bg_dX7_look_223 5 181 rfl) (bg_dX7_look_223 6 0 rfl) (bg_dX7_look_223 7 143 rfl)
theorem dX7_look_231 : decode cX7_look 231 = .ok (.goto (-82), 3) := o_167 (bg_dX7_look_223 8 167 rfl) (bg_dX7_look_223 9 255 rfl) (bg_dX7_look_223 10 174 rfl) (by decide +kernel)
theorem dX7_look_234 : decode cX7_look 234 = .ok (.aload_n 0, 1) := o_42 (bg_dX7_look_223 11 42 rfl)
theorem dX7_look_235 : decode cX7_look 235 = .ok (.aload_n 0, 1) := o_42 (bg_dX7_look_223 12 42 rfl)
theorem dX7_look_236 : decode cX7_look 236 = .ok (.getfield 31, 3) := o_180 (bg_dX7_look_223 13 180 rfl) (bg_dX7_look_223 14 0 rfl) (bg_dX7_look_223 15 31 rfl)
theorem dX7_look_239 : decode cX7_look 239 = .ok (.aload_n 0, 1) := o_42 (bg_dX7_look_223 16 42 rfl)
theorem dX7_look_240 : decode cX7_look 240 = .ok (.getfield 143, 3) := o_180 (bg_dX7_look_223 17 180 rfl) (bg_dX7_look_223 18 0 rfl) (bg_dX7_look_223 19 143 rfl)
theorem dX7_look_243 : decode cX7_look 243 = .ok (.iaload, 1) := o_46 (bg_dX7_look_223 20 46 rfl)
theorem dX7_look_244 : decode cX7_look 244 = .ok (.bipush 59, 2) := o_16 (bg_dX7_look_223 21 16 rfl) (bg_dX7_look_223 22 59 rfl) (by decide +kernel)
theorem dX7_look_246 : decode cX7_look 246 = .ok (.if_icmp .ne 7, 3) := o_160 (bg_dX7_look_223 23 160 rfl) (bg_dX7_look_223 24 0 rfl) (bg_dX7_look_223 25 7 rfl) (by decide +kernel)
theorem dX7_look_249 : decode cX7_look 249 = .ok (.iconst 3, 1) := o_6 (bg_dX7_look_223 26 6 rfl)
theorem bg_dX7_look_250 : bysAt cX7_look 250 [167, 0, 4, 7, 181, 0, 153, 42, 89, 180, 0, 143, 4, 96, 181, 0, 143, 177] := bysAt_of (by decide +kernel)
theorem dX7_look_250 : decode cX7_look 250 = .ok (.goto 4, 3) := o_167 (bg_dX7_look_250 0 167 rfl) (bg_dX7_look_250 1 0 rfl) (bg_dX7_look_250 2 4 rfl) (by decide +kernel)
theorem dX7_look_253 : decode cX7_look 253 = .ok (.iconst 4, 1) := o_7 (bg_dX7_look_250 3 7 rfl)
theorem dX7_look_254 : decode cX7_look 254 = .ok (.putfield 153, 3) := o_181 (bg_dX7_look_250 4 181 rfl) (bg_dX7_look_250 5 0 rfl) (bg_dX7_look_250 6 153 rfl)
theorem dX7_look_257 : decode cX7_look 257 = .ok (.aload_n 0, 1) := o_42 (bg_dX7_look_250 7 42 rfl)
theorem dX7_look_258 : decode cX7_look 258 = .ok (.dup, 1) := o_89 (bg_dX7_look_250 8 89 rfl)
theorem dX7_look_259 : decode cX7_look 259 = .ok (.getfield 143, 3) := o_180 (bg_dX7_look_250 9 180 rfl) (bg_dX7_look_250 10 0 rfl) (bg_dX7_look_250 11 143 rfl)
theorem dX7_look_262 : decode cX7_look 262 = .ok (.iconst 1, 1) := o_4 (bg_dX7_look_250 12 4 rfl)
theorem dX7_look_263 : decode cX7_look 263 = .ok (.iadd, 1) := o_96 (bg_dX7_look_250 13 96 rfl)
theorem dX7_look_264 : decode cX7_look 264 = .ok (.putfield 143, 3) := o_181 (bg_dX7_look_250 14 181 rfl) (bg_dX7_look_250 15 0 rfl) (bg_dX7_look_250 16 143 rfl)
theorem dX7_look_267 : decode cX7_look 267 = .ok (.return_, 1) := o_177 (bg_dX7_look_250 17 177 rfl)
theorem bg_dX7_number_0 : bysAt cX7_number 0 [42, 180, 0, 153, 5, 160, 0, 18, 42, 180, 0, 149, 29, 133, 21, 4, 133, 184, 0, 62, 154, 0, 8, 42, 182, 0, 181] := bysAt_of (by decide +kernel)
theorem dX7_number_0 : decode cX7_number 0 = .ok (.aload_n 0, 1) := o_42 (bg_dX7_number_0 0 42 rfl)
theorem dX7_number_1 : decode cX7_number 1 = .ok (.getfield 153, 3) := o_180 (bg_dX7_number_0 1 180 rfl) (bg_dX7_number_0 2 0 rfl) (bg_dX7_number_0 3 153 rfl)
theorem dX7_number_4 : decode cX7_number 4 = .ok (.iconst 2, 1) := o_5 (bg_dX7_number_0 4 5 rfl)
theorem dX7_number_5 : decode cX7_number 5 = .ok (.if_icmp .ne 18, 3) := o_160 (bg_dX7_number_0 5 160 rfl) (bg_dX7_number_0 6 0 rfl) (bg_dX7_number_0 7 18 rfl) (by decide +kernel)
theorem dX7_number_8 : decode cX7_number 8 = .ok (.aload_n 0, 1) := o_42 (bg_dX7_number_0 8 42 rfl)
theorem dX7_number_9 : decode cX7_number 9 = .ok (.getfield 149, 3) := o_180 (bg_dX7_number_0 9 180 rfl) (bg_dX7_number_0 10 0 rfl) (bg_dX7_number_0 11 149 rfl)
theorem dX7_number_12 : decode cX7_number 12 = .ok (.iload_n 3, 1) := o_29 (bg_dX7_number_0 12 29 rfl)
theorem dX7_number_13 : decode cX7_number 13 = .ok (.i2l, 1) := o_133 (bg_dX7_number_0 13 133 rfl)
theorem dX7_number_14 : decode cX7_number 14 = .ok (.iload 4, 2) := o_21 (bg_dX7_number_0 14 21 rfl) (bg_dX7_number_0 15 4 rfl)
theorem dX7_number_16 : decode cX7_number 16 = .ok (.i2l, 1) := o_133 (bg_dX7_number_0 16 133 rfl)
theorem dX7_number_17 : decode cX7_number 17 = .ok (.invokestatic 62, 3) := o_184 (bg_dX7_number_0 17 184 rfl) (bg_dX7_number_0 18 0 rfl) (bg_dX7_number_0 19 62 rfl)
theorem dX7_number_20 : decode cX7_number 20 = .ok (.ifCond .ne 8, 3) := o_154 (bg_dX7_number_0 20 154 rfl) (bg_dX7_number_0 21 0 rfl) (bg_dX7_number_0 22 8 rfl) (by decide +kernel)
theorem dX7_number_23 : decode cX7_number 23 = .ok (.aload_n 0, 1) := o_42 (bg_dX7_number_0 23 42 rfl)
theorem dX7_number_24 : decode cX7_number 24 = .ok (.invokevirtual 181, 3) := o_182 (bg_dX7_number_0 24 182 rfl) (bg_dX7_number_0 25 0 rfl) (bg_dX7_number_0 26 181 rfl)
theorem bg_dX7_number_27 : bysAt cX7_number 27 [172, 43, 28, 42, 180, 0, 149, 136, 79, 42, 182, 0, 185, 4, 172] := bysAt_of (by decide +kernel)
theorem dX7_number_27 : decode cX7_number 27 = .ok (.ireturn, 1) := o_172 (bg_dX7_number_27 0 172 rfl)
theorem dX7_number_28 : decode cX7_number 28 = .ok (.aload_n 1, 1) := o_43 (bg_dX7_number_27 1 43 rfl)
theorem dX7_number_29 : decode cX7_number 29 = .ok (.iload_n 2, 1) := o_28 (bg_dX7_number_27 2 28 rfl)
theorem dX7_number_30 : decode cX7_number 30 = .ok (.aload_n 0, 1) := o_42 (bg_dX7_number_27 3 42 rfl)
theorem dX7_number_31 : decode cX7_number 31 = .ok (.getfield 149, 3) := o_180 (bg_dX7_number_27 4 180 rfl) (bg_dX7_number_27 5 0 rfl) (bg_dX7_number_27 6 149 rfl)
theorem dX7_number_34 : decode cX7_number 34 = .ok (.l2i, 1) := o_136 (bg_dX7_number_27 7 136 rfl)
theorem dX7_number_35 : decode cX7_number 35 = .ok (.iastore, 1) := o_79 (bg_dX7_number_27 8 79 rfl)
theorem dX7_number_36 : decode cX7_number 36 = .ok (.aload_n 0, 1) := o_42 (bg_dX7_number_27 9 42 rfl)
theorem dX7_number_37 : decode cX7_number 37 = .ok (.invokevirtual 185, 3) := o_182 (bg_dX7_number_27 10 182 rfl) (bg_dX7_number_27 11 0 rfl) (bg_dX7_number_27 12 185 rfl)
theorem dX7_number_40 : decode cX7_number 40 = .ok (.iconst 1, 1) := o_4 (bg_dX7_number_27 13 4 rfl)
theorem dX7_number_41 : decode cX7_number 41 = .ok (.ireturn, 1) := o_172 (bg_dX7_number_27 14 172 rfl)
theorem bg_dX7_perhaps_0 : bysAt cX7_perhaps 0 [42, 43, 182, 0, 188, 153, 0, 17, 42, 43, 44, 29, 21, 4, 21, 5, 182, 0, 196, 153, 0, 7, 4, 167, 0, 4] := bysAt_of (by decide +kernel)
theorem dX7_perhaps_0 : decode cX7_perhaps 0 = .ok (.aload_n 0, 1) := o_42 (bg_dX7_perhaps_0 0 42 rfl)
theorem dX7_perhaps_1 : decode cX7_perhaps 1 = .ok (.aload_n 1, 1) := o_43 (bg_dX7_perhaps_0 1 43 rfl)
theorem dX7_perhaps_2 : decode cX7_perhaps 2 = .ok (.invokevirtual 188, 3) := o_182 (bg_dX7_perhaps_0 2 182 rfl) (bg_dX7_perhaps_0 3 0 rfl) (bg_dX7_perhaps_0 4 188 rfl)
theorem dX7_perhaps_5 : decode cX7_perhaps 5 = .ok (.ifCond .eq 17, 3) := o_153 (bg_dX7_perhaps_0 5 153 rfl) (bg_dX7_perhaps_0 6 0 rfl) (bg_dX7_perhaps_0 7 17 rfl) (by decide +kernel)
theorem dX7_perhaps_8 : decode cX7_perhaps 8 = .ok (.aload_n 0, 1) := o_42 (bg_dX7_perhaps_0 8 42 rfl)
theorem dX7_perhaps_9 : decode cX7_perhaps 9 = .ok (.aload_n 1, 1) := o_43 (bg_dX7_perhaps_0 9 43 rfl)
theorem dX7_perhaps_10 : decode cX7_perhaps 10 = .ok (.aload_n 2, 1) := o_44 (bg_dX7_perhaps_0 10 44 rfl)
theorem dX7_perhaps_11 : decode cX7_perhaps 11 = .ok (.iload_n 3, 1) := o_29 (bg_dX7_perhaps_0 11 29 rfl)
theorem dX7_perhaps_12 : decode cX7_perhaps 12 = .ok (.iload 4, 2) := o_21 (bg_dX7_perhaps_0 12 21 rfl) (bg_dX7_perhaps_0 13 4 rfl)
theorem dX7_perhaps_14 : decode cX7_perhaps 14 = .ok (.iload 5, 2) := o_21 (bg_dX7_perhaps_0 14 21 rfl) (bg_dX7_perhaps_0 15 5 rfl)
theorem dX7_perhaps_16 : decode cX7_perhaps 16 = .ok (.invokevirtual 196, 3) := o_182 (bg_dX7_perhaps_0 16 182 rfl) (bg_dX7_perhaps_0 17 0 rfl) (bg_dX7_perhaps_0 18 196 rfl)
theorem dX7_perhaps_19 : decode cX7_perhaps 19 = .ok (.ifCond .eq 7, 3) := o_153 (bg_dX7_perhaps_0 19 153 rfl) (bg_dX7_perhaps_0 20 0 rfl) (bg_dX7_perhaps_0 21 7 rfl) (by decide +kernel)
theorem dX7_perhaps_22 : decode cX7_perhaps 22 = .ok (.iconst 1, 1) := o_4 (bg_dX7_perhaps_0 22 4 rfl)
theorem dX7_perhaps_23 : decode cX7_perhaps 23 = .ok (.goto 4, 3) := o_167 (bg_dX7_perhaps_0 23 167 rfl) (bg_dX7_perhaps_0 24 0 rfl) (bg_dX7_perhaps_0 25 4 rfl) (by decide +kernel)
theorem bg_dX7_perhaps_26 : bysAt cX7_perhaps 26 [3, 172] := bysAt_of (by decide +kernel)
theorem dX7_perhaps_26 : decode cX7_perhaps 26 = .ok (.iconst 0, 1) := o_3 (bg_dX7_perhaps_26 0 3 rfl)
theorem dX7_perhaps_27 : decode cX7_perhaps 27 = .ok (.ireturn, 1) := o_172 (bg_dX7_perhaps_26 1 172 rfl)
theorem bg_dX7_told_0 : bysAt cX7_told 0 [42, 43, 182, 0, 188, 154, 0, 8, 42, 182, 0, 181, 172, 42, 182, 0, 185, 42, 44, 29, 21, 4, 21, 5] := bysAt_of (by decide +kernel)
theorem dX7_told_0 : decode cX7_told 0 = .ok (.aload_n 0, 1) := o_42 (bg_dX7_told_0 0 42 rfl)
theorem dX7_told_1 : decode cX7_told 1 = .ok (.aload_n 1, 1) := o_43 (bg_dX7_told_0 1 43 rfl)
theorem dX7_told_2 : decode cX7_told 2 = .ok (.invokevirtual 188, 3) := o_182 (bg_dX7_told_0 2 182 rfl) (bg_dX7_told_0 3 0 rfl) (bg_dX7_told_0 4 188 rfl)
theorem dX7_told_5 : decode cX7_told 5 = .ok (.ifCond .ne 8, 3) := o_154 (bg_dX7_told_0 5 154 rfl) (bg_dX7_told_0 6 0 rfl) (bg_dX7_told_0 7 8 rfl) (by decide +kernel)
theorem dX7_told_8 : decode cX7_told 8 = .ok (.aload_n 0, 1) := o_42 (bg_dX7_told_0 8 42 rfl)
theorem dX7_told_9 : decode cX7_told 9 = .ok (.invokevirtual 181, 3) := o_182 (bg_dX7_told_0 9 182 rfl) (bg_dX7_told_0 10 0 rfl) (bg_dX7_told_0 11 181 rfl)
theorem dX7_told_12 : decode cX7_told 12 = .ok (.ireturn, 1) := o_172 (bg_dX7_told_0 12 172 rfl)
theorem dX7_told_13 : decode cX7_told 13 = .ok (.aload_n 0, 1) := o_42 (bg_dX7_told_0 13 42 rfl)
theorem dX7_told_14 : decode cX7_told 14 = .ok (.invokevirtual 185, 3) := o_182 (bg_dX7_told_0 14 182 rfl) (bg_dX7_told_0 15 0 rfl) (bg_dX7_told_0 16 185 rfl)
theorem dX7_told_17 : decode cX7_told 17 = .ok (.aload_n 0, 1) := o_42 (bg_dX7_told_0 17 42 rfl)
theorem dX7_told_18 : decode cX7_told 18 = .ok (.aload_n 2, 1) := o_44 (bg_dX7_told_0 18 44 rfl)
theorem dX7_told_19 : decode cX7_told 19 = .ok (.iload_n 3, 1) := o_29 (bg_dX7_told_0 19 29 rfl)
theorem dX7_told_20 : decode cX7_told 20 = .ok (.iload 4, 2) := o_21 (bg_dX7_told_0 20 21 rfl) (bg_dX7_told_0 21 4 rfl)
theorem dX7_told_22 : decode cX7_told 22 = .ok (.iload 5, 2) := o_21 (bg_dX7_told_0 22 21 rfl) (bg_dX7_told_0 23 5 rfl)
theorem bg_dX7_told_24 : bysAt cX7_told 24 [182, 0, 192, 172] := bysAt_of (by decide +kernel)
theorem dX7_told_24 : decode cX7_told 24 = .ok (.invokevirtual 192, 3) := o_182 (bg_dX7_told_24 0 182 rfl) (bg_dX7_told_24 1 0 rfl) (bg_dX7_told_24 2 192 rfl)
theorem dX7_told_27 : decode cX7_told 27 = .ok (.ireturn, 1) := o_172 (bg_dX7_told_24 3 172 rfl)
theorem bg_dX7_wrong_0 : bysAt cX7_wrong 0 [42, 42, 180, 0, 146, 181, 0, 168, 3, 172] := bysAt_of (by decide +kernel)
theorem dX7_wrong_0 : decode cX7_wrong 0 = .ok (.aload_n 0, 1) := o_42 (bg_dX7_wrong_0 0 42 rfl)
theorem dX7_wrong_1 : decode cX7_wrong 1 = .ok (.aload_n 0, 1) := o_42 (bg_dX7_wrong_0 1 42 rfl)
theorem dX7_wrong_2 : decode cX7_wrong 2 = .ok (.getfield 146, 3) := o_180 (bg_dX7_wrong_0 2 180 rfl) (bg_dX7_wrong_0 3 0 rfl) (bg_dX7_wrong_0 4 146 rfl)
theorem dX7_wrong_5 : decode cX7_wrong 5 = .ok (.putfield 168, 3) := o_181 (bg_dX7_wrong_0 5 181 rfl) (bg_dX7_wrong_0 6 0 rfl) (bg_dX7_wrong_0 7 168 rfl)
theorem dX7_wrong_8 : decode cX7_wrong 8 = .ok (.iconst 0, 1) := o_3 (bg_dX7_wrong_0 8 3 rfl)
theorem dX7_wrong_9 : decode cX7_wrong 9 = .ok (.ireturn, 1) := o_172 (bg_dX7_wrong_0 9 172 rfl)
theorem pdX7_isDigit : yX7_isDigit.cls ≠ "java/lang/invoke/MethodHandle" ∧ yX7_isDigit.cls ≠ "java/lang/invoke/VarHandle" ∧ (parseMethodDescriptor yX7_isDigit.desc).map (fun d => d.parameters.length) = some 1 := by decide +kernel
theorem pdX7_isLetter : yX7_isLetter.cls ≠ "java/lang/invoke/MethodHandle" ∧ yX7_isLetter.cls ≠ "java/lang/invoke/VarHandle" ∧ (parseMethodDescriptor yX7_isLetter.desc).map (fun d => d.parameters.length) = some 1 := by decide +kernel
theorem pdVX7_isWord : yX7_isWord.cls = RX7 ∧ yX7_isWord.cls ≠ "java/lang/invoke/MethodHandle" ∧ yX7_isWord.cls ≠ "java/lang/invoke/VarHandle" ∧ (parseMethodDescriptor yX7_isWord.desc).map (fun d => d.parameters.length) = some 1 := by decide +kernel
theorem pdVX7_look : yX7_look.cls = RX7 ∧ yX7_look.cls ≠ "java/lang/invoke/MethodHandle" ∧ yX7_look.cls ≠ "java/lang/invoke/VarHandle" ∧ (parseMethodDescriptor yX7_look.desc).map (fun d => d.parameters.length) = some 0 := by decide +kernel
theorem pdVX7_number : yX7_number.cls = RX7 ∧ yX7_number.cls ≠ "java/lang/invoke/MethodHandle" ∧ yX7_number.cls ≠ "java/lang/invoke/VarHandle" ∧ (parseMethodDescriptor yX7_number.desc).map (fun d => d.parameters.length) = some 4 := by decide +kernel
theorem pdVX7_told : yX7_told.cls = RX7 ∧ yX7_told.cls ≠ "java/lang/invoke/MethodHandle" ∧ yX7_told.cls ≠ "java/lang/invoke/VarHandle" ∧ (parseMethodDescriptor yX7_told.desc).map (fun d => d.parameters.length) = some 5 := by decide +kernel
theorem pdVX7_wrong : yX7_wrong.cls = RX7 ∧ yX7_wrong.cls ≠ "java/lang/invoke/MethodHandle" ∧ yX7_wrong.cls ≠ "java/lang/invoke/VarHandle" ∧ (parseMethodDescriptor yX7_wrong.desc).map (fun d => d.parameters.length) = some 0 := by decide +kernel
theorem dX7_isWord_57 : decode cX7_isWord 57 = .ok (.iinc 2 1, 3) := by decide +kernel
/-- a row into which a number of an interval may be written -/
def okR (a : Nat → Nat) (E : Nat → ClassId) (n k : Nat) (i lo hi : Int32) : Prop := k < n ∧ k ≠ 0 ∧ ∃ N : Nat, (∀ C, TyM a E C → C k = .inl (E 0, N, .inl (ga (C k)))) ∧ vp_in i N ∧ ∀ (C : Nat → va_E) (v : Int32), TyM a E C → lo ≤ v → v ≤ hi → TyM a E (updc C k (.inl (E 0, N, .inl (upd (ga (C k)) i.toNatClampNeg v))))
theorem oh_rgle {v p q : Int32} {lo hi : Int} (h1 : p ≤ v) (h2 : v ≤ q) (hd : decide (lo ≤ p.toInt ∧ q.toInt ≤ hi) = true) : rg v lo hi := by
  have h := of_decide_eq_true hd
  have a1 := Int32.le_iff_toInt_le.mp h1
  have a2 := Int32.le_iff_toInt_le.mp h2
  exact ⟨by omega, by omega⟩
theorem fr_trs {mc : List (Nat × Nat)} {mf mf2 : List Nat} {C0 C u : Nat → va_E} (h : fr mc mf C0 C) (h2 : fr mc mf2 C u) (hf : mf2.all (fun i => mf.contains i) = true) : fr mc mf C0 u := by
  refine ⟨fun k hk h0 => (h2.1 k hk h0).trans (h.1 k hk h0), fun i hi => ?_⟩
  have h3 : i ∉ mf2 := fun e => hi (by simpa using List.all_eq_true.mp hf i e)
  exact (h2.2 i h3).trans (h.2 i hi)
theorem fr_trk {mc : List (Nat × Nat)} {mf mf2 : List Nat} {k : Nat} {C0 C u : Nat → va_E} (h : fr mc mf C0 C) (h2 : fr [(k, k + 1)] mf2 C u) (hk : inR mc k = true) (hf : mf2.all (fun i => mf.contains i) = true) : fr mc mf C0 u := by
  refine ⟨fun i hi h0 => ?_, fun i hi => ?_⟩
  · have h3 : inR [(k, k + 1)] i = false := by
      cases e : inR [(k, k + 1)] i with
      | false => rfl
      | true =>
        unfold inR at e
        rw [List.any_eq_true] at e
        obtain ⟨p, hp, h1⟩ := e
        rw [List.mem_singleton] at hp
        subst hp
        rw [Bool.and_eq_true, Nat.ble_eq, Nat.blt_eq] at h1
        have : i = k := by omega
        rw [this, hk] at hi
        cases hi
    exact (h2.1 i h3 h0).trans (h.1 i hi h0)
  · have h3 : i ∉ mf2 := fun e => hi (by simpa using List.all_eq_true.mp hf i e)
    exact (h2.2 i h3).trans (h.2 i hi)
theorem fr_at {k i : Nat} {mf : List Nat} {C u : Nat → va_E} (h : fr [(k, k + 1)] mf C u) (h0 : i ≠ 0) (hne : i ≠ k) : u i = C i := by
  refine h.1 i ?_ h0
  cases e : inR [(k, k + 1)] i with
  | false => rfl
  | true =>
    unfold inR at e
    rw [List.any_eq_true] at e
    obtain ⟨p, hp, h1⟩ := e
    rw [List.mem_singleton] at hp
    subst hp
    rw [Bool.and_eq_true, Nat.ble_eq, Nat.blt_eq] at h1
    omega
theorem oh_incr {x : Int32} {l u : Int} (h : rg x l u) (hd : decide (-2147483648 ≤ l ∧ u < 2147483647) = true) : (x + 1).toInt = x.toInt + 1 := by
  have h2 := of_decide_eq_true hd
  rw [Int32.toInt_add]
  exact oh_bmod (by show _ ≤ x.toInt + 1; have := h.1; omega) (by show x.toInt + 1 ≤ _; have := h.2; omega)
theorem oh_wl {p f n : Int32} (ha : rg p 0 250) (hf : rg f 0 250) (e : p - f = n) (hn : rg n 3 6) : 3 ≤ p.toInt - f.toInt := by
  have e1 : (p - f).toInt = p.toInt - f.toInt := by
    rw [Int32.toInt_sub]
    exact oh_bmod (by have := ha.1; have := hf.2; omega) (by have := ha.2; have := hf.1; omega)
  rw [e] at e1
  have := hn.1
  omega
theorem oh_l2ile {v : Int64} {p q : Int32} (h1 : Int32.toInt64 p ≤ v) (h2 : v ≤ Int32.toInt64 q) : p ≤ Int64.toInt32 v ∧ Int64.toInt32 v ≤ q := by
  have a1 := Int64.le_iff_toInt_le.mp h1
  have a2 := Int64.le_iff_toInt_le.mp h2
  rw [oh_l32] at a1 a2
  have b1 := Int32.le_toInt p
  have b2 := Int32.toInt_lt q
  have e : (Int64.toInt32 v).toInt = v.toInt := by
    rw [Int64.toInt_toInt32, oh_bmod (by omega) (by omega)]
  exact ⟨Int32.le_iff_toInt_le.mpr (by rw [e]; exact a1), Int32.le_iff_toInt_le.mpr (by rw [e]; exact a2)⟩
theorem bg_dX7_bridgeTold_0 : bysAt cX7_bridgeTold 0 [42, 182, 0, 131, 42, 182, 0, 185, 42, 43, 3, 3, 42, 180, 0, 66, 4, 100, 182, 0, 192, 153, 0, 30] := bysAt_of (by decide +kernel)
theorem dX7_bridgeTold_0 : decode cX7_bridgeTold 0 = .ok (.aload_n 0, 1) := o_42 (bg_dX7_bridgeTold_0 0 42 rfl)
theorem dX7_bridgeTold_1 : decode cX7_bridgeTold 1 = .ok (.invokevirtual 131, 3) := o_182 (bg_dX7_bridgeTold_0 1 182 rfl) (bg_dX7_bridgeTold_0 2 0 rfl) (bg_dX7_bridgeTold_0 3 131 rfl)
theorem dX7_bridgeTold_4 : decode cX7_bridgeTold 4 = .ok (.aload_n 0, 1) := o_42 (bg_dX7_bridgeTold_0 4 42 rfl)
theorem dX7_bridgeTold_5 : decode cX7_bridgeTold 5 = .ok (.invokevirtual 185, 3) := o_182 (bg_dX7_bridgeTold_0 5 182 rfl) (bg_dX7_bridgeTold_0 6 0 rfl) (bg_dX7_bridgeTold_0 7 185 rfl)
theorem dX7_bridgeTold_8 : decode cX7_bridgeTold 8 = .ok (.aload_n 0, 1) := o_42 (bg_dX7_bridgeTold_0 8 42 rfl)
theorem dX7_bridgeTold_9 : decode cX7_bridgeTold 9 = .ok (.aload_n 1, 1) := o_43 (bg_dX7_bridgeTold_0 9 43 rfl)
theorem dX7_bridgeTold_10 : decode cX7_bridgeTold 10 = .ok (.iconst 0, 1) := o_3 (bg_dX7_bridgeTold_0 10 3 rfl)
theorem dX7_bridgeTold_11 : decode cX7_bridgeTold 11 = .ok (.iconst 0, 1) := o_3 (bg_dX7_bridgeTold_0 11 3 rfl)
theorem dX7_bridgeTold_12 : decode cX7_bridgeTold 12 = .ok (.aload_n 0, 1) := o_42 (bg_dX7_bridgeTold_0 12 42 rfl)
theorem dX7_bridgeTold_13 : decode cX7_bridgeTold 13 = .ok (.getfield 66, 3) := o_180 (bg_dX7_bridgeTold_0 13 180 rfl) (bg_dX7_bridgeTold_0 14 0 rfl) (bg_dX7_bridgeTold_0 15 66 rfl)
theorem dX7_bridgeTold_16 : decode cX7_bridgeTold 16 = .ok (.iconst 1, 1) := o_4 (bg_dX7_bridgeTold_0 16 4 rfl)
theorem dX7_bridgeTold_17 : decode cX7_bridgeTold 17 = .ok (.isub, 1) := o_100 (bg_dX7_bridgeTold_0 17 100 rfl)
theorem dX7_bridgeTold_18 : decode cX7_bridgeTold 18 = .ok (.invokevirtual 192, 3) := o_182 (bg_dX7_bridgeTold_0 18 182 rfl) (bg_dX7_bridgeTold_0 19 0 rfl) (bg_dX7_bridgeTold_0 20 192 rfl)
theorem dX7_bridgeTold_21 : decode cX7_bridgeTold 21 = .ok (.ifCond .eq 30, 3) := o_153 (bg_dX7_bridgeTold_0 21 153 rfl) (bg_dX7_bridgeTold_0 22 0 rfl) (bg_dX7_bridgeTold_0 23 30 rfl) (by decide +kernel)
theorem bg_dX7_bridgeTold_24 : bysAt cX7_bridgeTold 24 [42, 18, 230, 43, 4, 3, 8, 182, 0, 196, 153, 0, 17, 42, 18, 232, 43, 5, 3, 16, 60] := bysAt_of (by decide +kernel)
theorem dX7_bridgeTold_24 : decode cX7_bridgeTold 24 = .ok (.aload_n 0, 1) := o_42 (bg_dX7_bridgeTold_24 0 42 rfl)
theorem dX7_bridgeTold_25 : decode cX7_bridgeTold 25 = .ok (.ldc 230, 2) := o_18 (bg_dX7_bridgeTold_24 1 18 rfl) (bg_dX7_bridgeTold_24 2 230 rfl)
theorem dX7_bridgeTold_27 : decode cX7_bridgeTold 27 = .ok (.aload_n 1, 1) := o_43 (bg_dX7_bridgeTold_24 3 43 rfl)
theorem dX7_bridgeTold_28 : decode cX7_bridgeTold 28 = .ok (.iconst 1, 1) := o_4 (bg_dX7_bridgeTold_24 4 4 rfl)
theorem dX7_bridgeTold_29 : decode cX7_bridgeTold 29 = .ok (.iconst 0, 1) := o_3 (bg_dX7_bridgeTold_24 5 3 rfl)
theorem dX7_bridgeTold_30 : decode cX7_bridgeTold 30 = .ok (.iconst 5, 1) := o_8 (bg_dX7_bridgeTold_24 6 8 rfl)
theorem dX7_bridgeTold_31 : decode cX7_bridgeTold 31 = .ok (.invokevirtual 196, 3) := o_182 (bg_dX7_bridgeTold_24 7 182 rfl) (bg_dX7_bridgeTold_24 8 0 rfl) (bg_dX7_bridgeTold_24 9 196 rfl)
theorem dX7_bridgeTold_34 : decode cX7_bridgeTold 34 = .ok (.ifCond .eq 17, 3) := o_153 (bg_dX7_bridgeTold_24 10 153 rfl) (bg_dX7_bridgeTold_24 11 0 rfl) (bg_dX7_bridgeTold_24 12 17 rfl) (by decide +kernel)
theorem dX7_bridgeTold_37 : decode cX7_bridgeTold 37 = .ok (.aload_n 0, 1) := o_42 (bg_dX7_bridgeTold_24 13 42 rfl)
theorem dX7_bridgeTold_38 : decode cX7_bridgeTold 38 = .ok (.ldc 232, 2) := o_18 (bg_dX7_bridgeTold_24 14 18 rfl) (bg_dX7_bridgeTold_24 15 232 rfl)
theorem dX7_bridgeTold_40 : decode cX7_bridgeTold 40 = .ok (.aload_n 1, 1) := o_43 (bg_dX7_bridgeTold_24 16 43 rfl)
theorem dX7_bridgeTold_41 : decode cX7_bridgeTold 41 = .ok (.iconst 2, 1) := o_5 (bg_dX7_bridgeTold_24 17 5 rfl)
theorem dX7_bridgeTold_42 : decode cX7_bridgeTold 42 = .ok (.iconst 0, 1) := o_3 (bg_dX7_bridgeTold_24 18 3 rfl)
theorem dX7_bridgeTold_43 : decode cX7_bridgeTold 43 = .ok (.bipush 60, 2) := o_16 (bg_dX7_bridgeTold_24 19 16 rfl) (bg_dX7_bridgeTold_24 20 60 rfl) (by decide +kernel)
theorem bg_dX7_bridgeTold_45 : bysAt cX7_bridgeTold 45 [182, 0, 196, 154, 0, 5, 3, 172, 42, 18, 234, 43, 6, 4, 16, 99, 182, 0, 196, 153, 0, 18, 42, 18, 236] := bysAt_of (by decide +kernel)
theorem dX7_bridgeTold_45 : decode cX7_bridgeTold 45 = .ok (.invokevirtual 196, 3) := o_182 (bg_dX7_bridgeTold_45 0 182 rfl) (bg_dX7_bridgeTold_45 1 0 rfl) (bg_dX7_bridgeTold_45 2 196 rfl)
theorem dX7_bridgeTold_48 : decode cX7_bridgeTold 48 = .ok (.ifCond .ne 5, 3) := o_154 (bg_dX7_bridgeTold_45 3 154 rfl) (bg_dX7_bridgeTold_45 4 0 rfl) (bg_dX7_bridgeTold_45 5 5 rfl) (by decide +kernel)
theorem dX7_bridgeTold_51 : decode cX7_bridgeTold 51 = .ok (.iconst 0, 1) := o_3 (bg_dX7_bridgeTold_45 6 3 rfl)
theorem dX7_bridgeTold_52 : decode cX7_bridgeTold 52 = .ok (.ireturn, 1) := o_172 (bg_dX7_bridgeTold_45 7 172 rfl)
theorem dX7_bridgeTold_53 : decode cX7_bridgeTold 53 = .ok (.aload_n 0, 1) := o_42 (bg_dX7_bridgeTold_45 8 42 rfl)
theorem dX7_bridgeTold_54 : decode cX7_bridgeTold 54 = .ok (.ldc 234, 2) := o_18 (bg_dX7_bridgeTold_45 9 18 rfl) (bg_dX7_bridgeTold_45 10 234 rfl)
theorem dX7_bridgeTold_56 : decode cX7_bridgeTold 56 = .ok (.aload_n 1, 1) := o_43 (bg_dX7_bridgeTold_45 11 43 rfl)
theorem dX7_bridgeTold_57 : decode cX7_bridgeTold 57 = .ok (.iconst 3, 1) := o_6 (bg_dX7_bridgeTold_45 12 6 rfl)
theorem dX7_bridgeTold_58 : decode cX7_bridgeTold 58 = .ok (.iconst 1, 1) := o_4 (bg_dX7_bridgeTold_45 13 4 rfl)
theorem dX7_bridgeTold_59 : decode cX7_bridgeTold 59 = .ok (.bipush 99, 2) := o_16 (bg_dX7_bridgeTold_45 14 16 rfl) (bg_dX7_bridgeTold_45 15 99 rfl) (by decide +kernel)
theorem dX7_bridgeTold_61 : decode cX7_bridgeTold 61 = .ok (.invokevirtual 196, 3) := o_182 (bg_dX7_bridgeTold_45 16 182 rfl) (bg_dX7_bridgeTold_45 17 0 rfl) (bg_dX7_bridgeTold_45 18 196 rfl)
theorem dX7_bridgeTold_64 : decode cX7_bridgeTold 64 = .ok (.ifCond .eq 18, 3) := o_153 (bg_dX7_bridgeTold_45 19 153 rfl) (bg_dX7_bridgeTold_45 20 0 rfl) (bg_dX7_bridgeTold_45 21 18 rfl) (by decide +kernel)
theorem dX7_bridgeTold_67 : decode cX7_bridgeTold 67 = .ok (.aload_n 0, 1) := o_42 (bg_dX7_bridgeTold_45 22 42 rfl)
theorem dX7_bridgeTold_68 : decode cX7_bridgeTold 68 = .ok (.ldc 236, 2) := o_18 (bg_dX7_bridgeTold_45 23 18 rfl) (bg_dX7_bridgeTold_45 24 236 rfl)
theorem bg_dX7_bridgeTold_70 : bysAt cX7_bridgeTold 70 [43, 7, 4, 17, 3, 231, 182, 0, 196, 154, 0, 5, 3, 172, 42, 18, 238, 182, 0, 188, 153, 0, 34, 42, 18, 238] := bysAt_of (by decide +kernel)
theorem dX7_bridgeTold_70 : decode cX7_bridgeTold 70 = .ok (.aload_n 1, 1) := o_43 (bg_dX7_bridgeTold_70 0 43 rfl)
theorem dX7_bridgeTold_71 : decode cX7_bridgeTold 71 = .ok (.iconst 4, 1) := o_7 (bg_dX7_bridgeTold_70 1 7 rfl)
theorem dX7_bridgeTold_72 : decode cX7_bridgeTold 72 = .ok (.iconst 1, 1) := o_4 (bg_dX7_bridgeTold_70 2 4 rfl)
theorem dX7_bridgeTold_73 : decode cX7_bridgeTold 73 = .ok (.sipush 999, 3) := o_17 (bg_dX7_bridgeTold_70 3 17 rfl) (bg_dX7_bridgeTold_70 4 3 rfl) (bg_dX7_bridgeTold_70 5 231 rfl) (by decide +kernel)
theorem dX7_bridgeTold_76 : decode cX7_bridgeTold 76 = .ok (.invokevirtual 196, 3) := o_182 (bg_dX7_bridgeTold_70 6 182 rfl) (bg_dX7_bridgeTold_70 7 0 rfl) (bg_dX7_bridgeTold_70 8 196 rfl)
theorem dX7_bridgeTold_79 : decode cX7_bridgeTold 79 = .ok (.ifCond .ne 5, 3) := o_154 (bg_dX7_bridgeTold_70 9 154 rfl) (bg_dX7_bridgeTold_70 10 0 rfl) (bg_dX7_bridgeTold_70 11 5 rfl) (by decide +kernel)
theorem dX7_bridgeTold_82 : decode cX7_bridgeTold 82 = .ok (.iconst 0, 1) := o_3 (bg_dX7_bridgeTold_70 12 3 rfl)
theorem dX7_bridgeTold_83 : decode cX7_bridgeTold 83 = .ok (.ireturn, 1) := o_172 (bg_dX7_bridgeTold_70 13 172 rfl)
theorem dX7_bridgeTold_84 : decode cX7_bridgeTold 84 = .ok (.aload_n 0, 1) := o_42 (bg_dX7_bridgeTold_70 14 42 rfl)
theorem dX7_bridgeTold_85 : decode cX7_bridgeTold 85 = .ok (.ldc 238, 2) := o_18 (bg_dX7_bridgeTold_70 15 18 rfl) (bg_dX7_bridgeTold_70 16 238 rfl)
theorem dX7_bridgeTold_87 : decode cX7_bridgeTold 87 = .ok (.invokevirtual 188, 3) := o_182 (bg_dX7_bridgeTold_70 17 182 rfl) (bg_dX7_bridgeTold_70 18 0 rfl) (bg_dX7_bridgeTold_70 19 188 rfl)
theorem dX7_bridgeTold_90 : decode cX7_bridgeTold 90 = .ok (.ifCond .eq 34, 3) := o_153 (bg_dX7_bridgeTold_70 20 153 rfl) (bg_dX7_bridgeTold_70 21 0 rfl) (bg_dX7_bridgeTold_70 22 34 rfl) (by decide +kernel)
theorem dX7_bridgeTold_93 : decode cX7_bridgeTold 93 = .ok (.aload_n 0, 1) := o_42 (bg_dX7_bridgeTold_70 23 42 rfl)
theorem dX7_bridgeTold_94 : decode cX7_bridgeTold 94 = .ok (.ldc 238, 2) := o_18 (bg_dX7_bridgeTold_70 24 18 rfl) (bg_dX7_bridgeTold_70 25 238 rfl)
theorem bg_dX7_bridgeTold_96 : bysAt cX7_bridgeTold 96 [43, 8, 3, 17, 3, 231, 182, 0, 196, 153, 0, 17, 42, 43, 16, 6, 3, 17, 3, 231, 182, 0, 192, 154, 0, 5, 3] := bysAt_of (by decide +kernel)
theorem dX7_bridgeTold_96 : decode cX7_bridgeTold 96 = .ok (.aload_n 1, 1) := o_43 (bg_dX7_bridgeTold_96 0 43 rfl)
theorem dX7_bridgeTold_97 : decode cX7_bridgeTold 97 = .ok (.iconst 5, 1) := o_8 (bg_dX7_bridgeTold_96 1 8 rfl)
theorem dX7_bridgeTold_98 : decode cX7_bridgeTold 98 = .ok (.iconst 0, 1) := o_3 (bg_dX7_bridgeTold_96 2 3 rfl)
theorem dX7_bridgeTold_99 : decode cX7_bridgeTold 99 = .ok (.sipush 999, 3) := o_17 (bg_dX7_bridgeTold_96 3 17 rfl) (bg_dX7_bridgeTold_96 4 3 rfl) (bg_dX7_bridgeTold_96 5 231 rfl) (by decide +kernel)
theorem dX7_bridgeTold_102 : decode cX7_bridgeTold 102 = .ok (.invokevirtual 196, 3) := o_182 (bg_dX7_bridgeTold_96 6 182 rfl) (bg_dX7_bridgeTold_96 7 0 rfl) (bg_dX7_bridgeTold_96 8 196 rfl)
theorem dX7_bridgeTold_105 : decode cX7_bridgeTold 105 = .ok (.ifCond .eq 17, 3) := o_153 (bg_dX7_bridgeTold_96 9 153 rfl) (bg_dX7_bridgeTold_96 10 0 rfl) (bg_dX7_bridgeTold_96 11 17 rfl) (by decide +kernel)
theorem dX7_bridgeTold_108 : decode cX7_bridgeTold 108 = .ok (.aload_n 0, 1) := o_42 (bg_dX7_bridgeTold_96 12 42 rfl)
theorem dX7_bridgeTold_109 : decode cX7_bridgeTold 109 = .ok (.aload_n 1, 1) := o_43 (bg_dX7_bridgeTold_96 13 43 rfl)
theorem dX7_bridgeTold_110 : decode cX7_bridgeTold 110 = .ok (.bipush 6, 2) := o_16 (bg_dX7_bridgeTold_96 14 16 rfl) (bg_dX7_bridgeTold_96 15 6 rfl) (by decide +kernel)
theorem dX7_bridgeTold_112 : decode cX7_bridgeTold 112 = .ok (.iconst 0, 1) := o_3 (bg_dX7_bridgeTold_96 16 3 rfl)
theorem dX7_bridgeTold_113 : decode cX7_bridgeTold 113 = .ok (.sipush 999, 3) := o_17 (bg_dX7_bridgeTold_96 17 17 rfl) (bg_dX7_bridgeTold_96 18 3 rfl) (bg_dX7_bridgeTold_96 19 231 rfl) (by decide +kernel)
theorem dX7_bridgeTold_116 : decode cX7_bridgeTold 116 = .ok (.invokevirtual 192, 3) := o_182 (bg_dX7_bridgeTold_96 20 182 rfl) (bg_dX7_bridgeTold_96 21 0 rfl) (bg_dX7_bridgeTold_96 22 192 rfl)
theorem dX7_bridgeTold_119 : decode cX7_bridgeTold 119 = .ok (.ifCond .ne 5, 3) := o_154 (bg_dX7_bridgeTold_96 23 154 rfl) (bg_dX7_bridgeTold_96 24 0 rfl) (bg_dX7_bridgeTold_96 25 5 rfl) (by decide +kernel)
theorem dX7_bridgeTold_122 : decode cX7_bridgeTold 122 = .ok (.iconst 0, 1) := o_3 (bg_dX7_bridgeTold_96 26 3 rfl)
theorem bg_dX7_bridgeTold_123 : bysAt cX7_bridgeTold 123 [172, 42, 89, 180, 0, 70, 4, 96, 181, 0, 70, 4, 172] := bysAt_of (by decide +kernel)
theorem dX7_bridgeTold_123 : decode cX7_bridgeTold 123 = .ok (.ireturn, 1) := o_172 (bg_dX7_bridgeTold_123 0 172 rfl)
theorem dX7_bridgeTold_124 : decode cX7_bridgeTold 124 = .ok (.aload_n 0, 1) := o_42 (bg_dX7_bridgeTold_123 1 42 rfl)
theorem dX7_bridgeTold_125 : decode cX7_bridgeTold 125 = .ok (.dup, 1) := o_89 (bg_dX7_bridgeTold_123 2 89 rfl)
theorem dX7_bridgeTold_126 : decode cX7_bridgeTold 126 = .ok (.getfield 70, 3) := o_180 (bg_dX7_bridgeTold_123 3 180 rfl) (bg_dX7_bridgeTold_123 4 0 rfl) (bg_dX7_bridgeTold_123 5 70 rfl)
theorem dX7_bridgeTold_129 : decode cX7_bridgeTold 129 = .ok (.iconst 1, 1) := o_4 (bg_dX7_bridgeTold_123 6 4 rfl)
theorem dX7_bridgeTold_130 : decode cX7_bridgeTold 130 = .ok (.iadd, 1) := o_96 (bg_dX7_bridgeTold_123 7 96 rfl)
theorem dX7_bridgeTold_131 : decode cX7_bridgeTold 131 = .ok (.putfield 70, 3) := o_181 (bg_dX7_bridgeTold_123 8 181 rfl) (bg_dX7_bridgeTold_123 9 0 rfl) (bg_dX7_bridgeTold_123 10 70 rfl)
theorem dX7_bridgeTold_134 : decode cX7_bridgeTold 134 = .ok (.iconst 1, 1) := o_4 (bg_dX7_bridgeTold_123 11 4 rfl)
theorem dX7_bridgeTold_135 : decode cX7_bridgeTold 135 = .ok (.ireturn, 1) := o_172 (bg_dX7_bridgeTold_123 12 172 rfl)
theorem bg_dX7_roadTold_0 : bysAt cX7_roadTold 0 [42, 3, 3, 182, 0, 122, 42, 182, 0, 185, 42, 43, 3, 3, 16, 15, 182, 0, 192, 154, 0, 5, 3] := bysAt_of (by decide +kernel)
theorem dX7_roadTold_0 : decode cX7_roadTold 0 = .ok (.aload_n 0, 1) := o_42 (bg_dX7_roadTold_0 0 42 rfl)
theorem dX7_roadTold_1 : decode cX7_roadTold 1 = .ok (.iconst 0, 1) := o_3 (bg_dX7_roadTold_0 1 3 rfl)
theorem dX7_roadTold_2 : decode cX7_roadTold 2 = .ok (.iconst 0, 1) := o_3 (bg_dX7_roadTold_0 2 3 rfl)
theorem dX7_roadTold_3 : decode cX7_roadTold 3 = .ok (.invokevirtual 122, 3) := o_182 (bg_dX7_roadTold_0 3 182 rfl) (bg_dX7_roadTold_0 4 0 rfl) (bg_dX7_roadTold_0 5 122 rfl)
theorem dX7_roadTold_6 : decode cX7_roadTold 6 = .ok (.aload_n 0, 1) := o_42 (bg_dX7_roadTold_0 6 42 rfl)
theorem dX7_roadTold_7 : decode cX7_roadTold 7 = .ok (.invokevirtual 185, 3) := o_182 (bg_dX7_roadTold_0 7 182 rfl) (bg_dX7_roadTold_0 8 0 rfl) (bg_dX7_roadTold_0 9 185 rfl)
theorem dX7_roadTold_10 : decode cX7_roadTold 10 = .ok (.aload_n 0, 1) := o_42 (bg_dX7_roadTold_0 10 42 rfl)
theorem dX7_roadTold_11 : decode cX7_roadTold 11 = .ok (.aload_n 1, 1) := o_43 (bg_dX7_roadTold_0 11 43 rfl)
theorem dX7_roadTold_12 : decode cX7_roadTold 12 = .ok (.iconst 0, 1) := o_3 (bg_dX7_roadTold_0 12 3 rfl)
theorem dX7_roadTold_13 : decode cX7_roadTold 13 = .ok (.iconst 0, 1) := o_3 (bg_dX7_roadTold_0 13 3 rfl)
theorem dX7_roadTold_14 : decode cX7_roadTold 14 = .ok (.bipush 15, 2) := o_16 (bg_dX7_roadTold_0 14 16 rfl) (bg_dX7_roadTold_0 15 15 rfl) (by decide +kernel)
theorem dX7_roadTold_16 : decode cX7_roadTold 16 = .ok (.invokevirtual 192, 3) := o_182 (bg_dX7_roadTold_0 16 182 rfl) (bg_dX7_roadTold_0 17 0 rfl) (bg_dX7_roadTold_0 18 192 rfl)
theorem dX7_roadTold_19 : decode cX7_roadTold 19 = .ok (.ifCond .ne 5, 3) := o_154 (bg_dX7_roadTold_0 19 154 rfl) (bg_dX7_roadTold_0 20 0 rfl) (bg_dX7_roadTold_0 21 5 rfl) (by decide +kernel)
theorem dX7_roadTold_22 : decode cX7_roadTold 22 = .ok (.iconst 0, 1) := o_3 (bg_dX7_roadTold_0 22 3 rfl)
theorem bg_dX7_roadTold_23 : bysAt cX7_roadTold 23 [172, 42, 180, 0, 153, 5, 160, 0, 20, 42, 180, 0, 149, 43, 3, 46, 133, 148, 154, 0, 8, 42] := bysAt_of (by decide +kernel)
theorem dX7_roadTold_23 : decode cX7_roadTold 23 = .ok (.ireturn, 1) := o_172 (bg_dX7_roadTold_23 0 172 rfl)
theorem dX7_roadTold_24 : decode cX7_roadTold 24 = .ok (.aload_n 0, 1) := o_42 (bg_dX7_roadTold_23 1 42 rfl)
theorem dX7_roadTold_25 : decode cX7_roadTold 25 = .ok (.getfield 153, 3) := o_180 (bg_dX7_roadTold_23 2 180 rfl) (bg_dX7_roadTold_23 3 0 rfl) (bg_dX7_roadTold_23 4 153 rfl)
theorem dX7_roadTold_28 : decode cX7_roadTold 28 = .ok (.iconst 2, 1) := o_5 (bg_dX7_roadTold_23 5 5 rfl)
theorem dX7_roadTold_29 : decode cX7_roadTold 29 = .ok (.if_icmp .ne 20, 3) := o_160 (bg_dX7_roadTold_23 6 160 rfl) (bg_dX7_roadTold_23 7 0 rfl) (bg_dX7_roadTold_23 8 20 rfl) (by decide +kernel)
theorem dX7_roadTold_32 : decode cX7_roadTold 32 = .ok (.aload_n 0, 1) := o_42 (bg_dX7_roadTold_23 9 42 rfl)
theorem dX7_roadTold_33 : decode cX7_roadTold 33 = .ok (.getfield 149, 3) := o_180 (bg_dX7_roadTold_23 10 180 rfl) (bg_dX7_roadTold_23 11 0 rfl) (bg_dX7_roadTold_23 12 149 rfl)
theorem dX7_roadTold_36 : decode cX7_roadTold 36 = .ok (.aload_n 1, 1) := o_43 (bg_dX7_roadTold_23 13 43 rfl)
theorem dX7_roadTold_37 : decode cX7_roadTold 37 = .ok (.iconst 0, 1) := o_3 (bg_dX7_roadTold_23 14 3 rfl)
theorem dX7_roadTold_38 : decode cX7_roadTold 38 = .ok (.iaload, 1) := o_46 (bg_dX7_roadTold_23 15 46 rfl)
theorem dX7_roadTold_39 : decode cX7_roadTold 39 = .ok (.i2l, 1) := o_133 (bg_dX7_roadTold_23 16 133 rfl)
theorem dX7_roadTold_40 : decode cX7_roadTold 40 = .ok (.lcmp, 1) := o_148 (bg_dX7_roadTold_23 17 148 rfl)
theorem dX7_roadTold_41 : decode cX7_roadTold 41 = .ok (.ifCond .ne 8, 3) := o_154 (bg_dX7_roadTold_23 18 154 rfl) (bg_dX7_roadTold_23 19 0 rfl) (bg_dX7_roadTold_23 20 8 rfl) (by decide +kernel)
theorem dX7_roadTold_44 : decode cX7_roadTold 44 = .ok (.aload_n 0, 1) := o_42 (bg_dX7_roadTold_23 21 42 rfl)
theorem bg_dX7_roadTold_45 : bysAt cX7_roadTold 45 [182, 0, 181, 172, 42, 43, 4, 3, 16, 15, 182, 0, 192, 153, 0, 17, 42, 18, 219, 43, 5, 4] := bysAt_of (by decide +kernel)
theorem dX7_roadTold_45 : decode cX7_roadTold 45 = .ok (.invokevirtual 181, 3) := o_182 (bg_dX7_roadTold_45 0 182 rfl) (bg_dX7_roadTold_45 1 0 rfl) (bg_dX7_roadTold_45 2 181 rfl)
theorem dX7_roadTold_48 : decode cX7_roadTold 48 = .ok (.ireturn, 1) := o_172 (bg_dX7_roadTold_45 3 172 rfl)
theorem dX7_roadTold_49 : decode cX7_roadTold 49 = .ok (.aload_n 0, 1) := o_42 (bg_dX7_roadTold_45 4 42 rfl)
theorem dX7_roadTold_50 : decode cX7_roadTold 50 = .ok (.aload_n 1, 1) := o_43 (bg_dX7_roadTold_45 5 43 rfl)
theorem dX7_roadTold_51 : decode cX7_roadTold 51 = .ok (.iconst 1, 1) := o_4 (bg_dX7_roadTold_45 6 4 rfl)
theorem dX7_roadTold_52 : decode cX7_roadTold 52 = .ok (.iconst 0, 1) := o_3 (bg_dX7_roadTold_45 7 3 rfl)
theorem dX7_roadTold_53 : decode cX7_roadTold 53 = .ok (.bipush 15, 2) := o_16 (bg_dX7_roadTold_45 8 16 rfl) (bg_dX7_roadTold_45 9 15 rfl) (by decide +kernel)
theorem dX7_roadTold_55 : decode cX7_roadTold 55 = .ok (.invokevirtual 192, 3) := o_182 (bg_dX7_roadTold_45 10 182 rfl) (bg_dX7_roadTold_45 11 0 rfl) (bg_dX7_roadTold_45 12 192 rfl)
theorem dX7_roadTold_58 : decode cX7_roadTold 58 = .ok (.ifCond .eq 17, 3) := o_153 (bg_dX7_roadTold_45 13 153 rfl) (bg_dX7_roadTold_45 14 0 rfl) (bg_dX7_roadTold_45 15 17 rfl) (by decide +kernel)
theorem dX7_roadTold_61 : decode cX7_roadTold 61 = .ok (.aload_n 0, 1) := o_42 (bg_dX7_roadTold_45 16 42 rfl)
theorem dX7_roadTold_62 : decode cX7_roadTold 62 = .ok (.ldc 219, 2) := o_18 (bg_dX7_roadTold_45 17 18 rfl) (bg_dX7_roadTold_45 18 219 rfl)
theorem dX7_roadTold_64 : decode cX7_roadTold 64 = .ok (.aload_n 1, 1) := o_43 (bg_dX7_roadTold_45 19 43 rfl)
theorem dX7_roadTold_65 : decode cX7_roadTold 65 = .ok (.iconst 2, 1) := o_5 (bg_dX7_roadTold_45 20 5 rfl)
theorem dX7_roadTold_66 : decode cX7_roadTold 66 = .ok (.iconst 1, 1) := o_4 (bg_dX7_roadTold_45 21 4 rfl)
theorem bg_dX7_roadTold_67 : bysAt cX7_roadTold 67 [16, 60, 182, 0, 196, 154, 0, 5, 3, 172, 42, 18, 221, 43, 6, 3, 16, 9, 182, 0, 223, 153, 0, 31, 42] := bysAt_of (by decide +kernel)
theorem dX7_roadTold_67 : decode cX7_roadTold 67 = .ok (.bipush 60, 2) := o_16 (bg_dX7_roadTold_67 0 16 rfl) (bg_dX7_roadTold_67 1 60 rfl) (by decide +kernel)
theorem dX7_roadTold_69 : decode cX7_roadTold 69 = .ok (.invokevirtual 196, 3) := o_182 (bg_dX7_roadTold_67 2 182 rfl) (bg_dX7_roadTold_67 3 0 rfl) (bg_dX7_roadTold_67 4 196 rfl)
theorem dX7_roadTold_72 : decode cX7_roadTold 72 = .ok (.ifCond .ne 5, 3) := o_154 (bg_dX7_roadTold_67 5 154 rfl) (bg_dX7_roadTold_67 6 0 rfl) (bg_dX7_roadTold_67 7 5 rfl) (by decide +kernel)
theorem dX7_roadTold_75 : decode cX7_roadTold 75 = .ok (.iconst 0, 1) := o_3 (bg_dX7_roadTold_67 8 3 rfl)
theorem dX7_roadTold_76 : decode cX7_roadTold 76 = .ok (.ireturn, 1) := o_172 (bg_dX7_roadTold_67 9 172 rfl)
theorem dX7_roadTold_77 : decode cX7_roadTold 77 = .ok (.aload_n 0, 1) := o_42 (bg_dX7_roadTold_67 10 42 rfl)
theorem dX7_roadTold_78 : decode cX7_roadTold 78 = .ok (.ldc 221, 2) := o_18 (bg_dX7_roadTold_67 11 18 rfl) (bg_dX7_roadTold_67 12 221 rfl)
theorem dX7_roadTold_80 : decode cX7_roadTold 80 = .ok (.aload_n 1, 1) := o_43 (bg_dX7_roadTold_67 13 43 rfl)
theorem dX7_roadTold_81 : decode cX7_roadTold 81 = .ok (.iconst 3, 1) := o_6 (bg_dX7_roadTold_67 14 6 rfl)
theorem dX7_roadTold_82 : decode cX7_roadTold 82 = .ok (.iconst 0, 1) := o_3 (bg_dX7_roadTold_67 15 3 rfl)
theorem dX7_roadTold_83 : decode cX7_roadTold 83 = .ok (.bipush 9, 2) := o_16 (bg_dX7_roadTold_67 16 16 rfl) (bg_dX7_roadTold_67 17 9 rfl) (by decide +kernel)
theorem dX7_roadTold_85 : decode cX7_roadTold 85 = .ok (.invokevirtual 223, 3) := o_182 (bg_dX7_roadTold_67 18 182 rfl) (bg_dX7_roadTold_67 19 0 rfl) (bg_dX7_roadTold_67 20 223 rfl)
theorem dX7_roadTold_88 : decode cX7_roadTold 88 = .ok (.ifCond .eq 31, 3) := o_153 (bg_dX7_roadTold_67 21 153 rfl) (bg_dX7_roadTold_67 22 0 rfl) (bg_dX7_roadTold_67 23 31 rfl) (by decide +kernel)
theorem dX7_roadTold_91 : decode cX7_roadTold 91 = .ok (.aload_n 0, 1) := o_42 (bg_dX7_roadTold_67 24 42 rfl)
theorem bg_dX7_roadTold_92 : bysAt cX7_roadTold 92 [18, 226, 43, 7, 4, 16, 99, 182, 0, 223, 153, 0, 17, 42, 18, 228, 43, 8, 3, 16, 15, 182, 0, 223] := bysAt_of (by decide +kernel)
theorem dX7_roadTold_92 : decode cX7_roadTold 92 = .ok (.ldc 226, 2) := o_18 (bg_dX7_roadTold_92 0 18 rfl) (bg_dX7_roadTold_92 1 226 rfl)
theorem dX7_roadTold_94 : decode cX7_roadTold 94 = .ok (.aload_n 1, 1) := o_43 (bg_dX7_roadTold_92 2 43 rfl)
theorem dX7_roadTold_95 : decode cX7_roadTold 95 = .ok (.iconst 4, 1) := o_7 (bg_dX7_roadTold_92 3 7 rfl)
theorem dX7_roadTold_96 : decode cX7_roadTold 96 = .ok (.iconst 1, 1) := o_4 (bg_dX7_roadTold_92 4 4 rfl)
theorem dX7_roadTold_97 : decode cX7_roadTold 97 = .ok (.bipush 99, 2) := o_16 (bg_dX7_roadTold_92 5 16 rfl) (bg_dX7_roadTold_92 6 99 rfl) (by decide +kernel)
theorem dX7_roadTold_99 : decode cX7_roadTold 99 = .ok (.invokevirtual 223, 3) := o_182 (bg_dX7_roadTold_92 7 182 rfl) (bg_dX7_roadTold_92 8 0 rfl) (bg_dX7_roadTold_92 9 223 rfl)
theorem dX7_roadTold_102 : decode cX7_roadTold 102 = .ok (.ifCond .eq 17, 3) := o_153 (bg_dX7_roadTold_92 10 153 rfl) (bg_dX7_roadTold_92 11 0 rfl) (bg_dX7_roadTold_92 12 17 rfl) (by decide +kernel)
theorem dX7_roadTold_105 : decode cX7_roadTold 105 = .ok (.aload_n 0, 1) := o_42 (bg_dX7_roadTold_92 13 42 rfl)
theorem dX7_roadTold_106 : decode cX7_roadTold 106 = .ok (.ldc 228, 2) := o_18 (bg_dX7_roadTold_92 14 18 rfl) (bg_dX7_roadTold_92 15 228 rfl)
theorem dX7_roadTold_108 : decode cX7_roadTold 108 = .ok (.aload_n 1, 1) := o_43 (bg_dX7_roadTold_92 16 43 rfl)
theorem dX7_roadTold_109 : decode cX7_roadTold 109 = .ok (.iconst 5, 1) := o_8 (bg_dX7_roadTold_92 17 8 rfl)
theorem dX7_roadTold_110 : decode cX7_roadTold 110 = .ok (.iconst 0, 1) := o_3 (bg_dX7_roadTold_92 18 3 rfl)
theorem dX7_roadTold_111 : decode cX7_roadTold 111 = .ok (.bipush 15, 2) := o_16 (bg_dX7_roadTold_92 19 16 rfl) (bg_dX7_roadTold_92 20 15 rfl) (by decide +kernel)
theorem dX7_roadTold_113 : decode cX7_roadTold 113 = .ok (.invokevirtual 223, 3) := o_182 (bg_dX7_roadTold_92 21 182 rfl) (bg_dX7_roadTold_92 22 0 rfl) (bg_dX7_roadTold_92 23 223 rfl)
theorem bg_dX7_roadTold_116 : bysAt cX7_roadTold 116 [154, 0, 5, 3, 172, 42, 89, 180, 0, 66, 4, 96, 181, 0, 66, 4, 172] := bysAt_of (by decide +kernel)
theorem dX7_roadTold_116 : decode cX7_roadTold 116 = .ok (.ifCond .ne 5, 3) := o_154 (bg_dX7_roadTold_116 0 154 rfl) (bg_dX7_roadTold_116 1 0 rfl) (bg_dX7_roadTold_116 2 5 rfl) (by decide +kernel)
theorem dX7_roadTold_119 : decode cX7_roadTold 119 = .ok (.iconst 0, 1) := o_3 (bg_dX7_roadTold_116 3 3 rfl)
theorem dX7_roadTold_120 : decode cX7_roadTold 120 = .ok (.ireturn, 1) := o_172 (bg_dX7_roadTold_116 4 172 rfl)
theorem dX7_roadTold_121 : decode cX7_roadTold 121 = .ok (.aload_n 0, 1) := o_42 (bg_dX7_roadTold_116 5 42 rfl)
theorem dX7_roadTold_122 : decode cX7_roadTold 122 = .ok (.dup, 1) := o_89 (bg_dX7_roadTold_116 6 89 rfl)
theorem dX7_roadTold_123 : decode cX7_roadTold 123 = .ok (.getfield 66, 3) := o_180 (bg_dX7_roadTold_116 7 180 rfl) (bg_dX7_roadTold_116 8 0 rfl) (bg_dX7_roadTold_116 9 66 rfl)
theorem dX7_roadTold_126 : decode cX7_roadTold 126 = .ok (.iconst 1, 1) := o_4 (bg_dX7_roadTold_116 10 4 rfl)
theorem dX7_roadTold_127 : decode cX7_roadTold 127 = .ok (.iadd, 1) := o_96 (bg_dX7_roadTold_116 11 96 rfl)
theorem dX7_roadTold_128 : decode cX7_roadTold 128 = .ok (.putfield 66, 3) := o_181 (bg_dX7_roadTold_116 12 181 rfl) (bg_dX7_roadTold_116 13 0 rfl) (bg_dX7_roadTold_116 14 66 rfl)
theorem dX7_roadTold_131 : decode cX7_roadTold 131 = .ok (.iconst 1, 1) := o_4 (bg_dX7_roadTold_116 15 4 rfl)
theorem dX7_roadTold_132 : decode cX7_roadTold 132 = .ok (.ireturn, 1) := o_172 (bg_dX7_roadTold_116 16 172 rfl)
theorem pdVX7_perhaps : yX7_perhaps.cls = RX7 ∧ yX7_perhaps.cls ≠ "java/lang/invoke/MethodHandle" ∧ yX7_perhaps.cls ≠ "java/lang/invoke/VarHandle" ∧ (parseMethodDescriptor yX7_perhaps.desc).map (fun d => d.parameters.length) = some 5 := by decide +kernel
theorem relW_row {C u : Nat → va_E} {w : Nat} {mf : List Nat} (h : RelW C) (hf : fr [(64 + w, 64 + w + 1)] mf C u) (hw : (w : Int) = (gi (C 0) 13).toInt) (hd : mf.contains 13 = false) : RelW u := by
  have e0 : gi (u 0) 13 = gi (C 0) 13 := congrArg vi (hf.2 13 (by simpa using hd))
  have e14 : u 14 = C 14 := fr_at hf (by decide) (by omega)
  refine ⟨fun i hi hl => ?_, fun h9 => ?_⟩
  · rw [e0] at hl
    rw [fr_at hf (by omega) (by omega)]
    exact h.1 i hi hl
  · rw [e14] at h9 ⊢
    rw [e0]
    exact h.2 h9
theorem relW_inc {C u : Nat → va_E} {w : Nat} (h : RelW C) (hw : (w : Int) = (gi (C 0) 13).toInt) (e : ∀ k, k ≠ 0 → u k = C k) (e13 : (gi (u 0) 13).toInt = (gi (C 0) 13).toInt + 1) (r0 : 1 ≤ (ga (C (64 + w)) ((0 : Int32)).toNatClampNeg).toInt) (r1 : 1 ≤ (ga (C (64 + w)) ((1 : Int32)).toNatClampNeg).toInt) : RelW u :=
  oh_relWadd h hw e13 (fun i hi hne => e _ (by omega)) (by rw [e _ (by omega)]; exact r0) (by rw [e _ (by omega)]; exact r1) (e 14 (by decide))
theorem relW_back {C0 C u : Nat → va_E} (h0 : RelW C0) (h : RelW C) (er : ∀ i, i < 5 → u (64 + i) = C (64 + i)) (e13 : (gi (u 0) 13).toInt = (gi (C0 0) 13).toInt) (hle : (gi (C0 0) 13).toInt ≤ (gi (C 0) 13).toInt) (e14 : u 14 = C0 14) : RelW u := by
  refine ⟨fun i hi hl => ?_, fun h9 => ?_⟩
  · rw [er i hi]
    exact h.1 i hi (by omega)
  · rw [e14] at h9 ⊢
    have := h0.2 h9
    omega
theorem bg_dX7_read_0 : bysAt cX7_read 0 [42, 4, 181, 0, 240, 42, 3, 181, 0, 143, 42, 182, 0, 185, 42, 182, 0, 243, 154, 0, 5, 3, 172, 42] := bysAt_of (by decide +kernel)
theorem dX7_read_0 : decode cX7_read 0 = .ok (.aload_n 0, 1) := o_42 (bg_dX7_read_0 0 42 rfl)
theorem dX7_read_1 : decode cX7_read 1 = .ok (.iconst 1, 1) := o_4 (bg_dX7_read_0 1 4 rfl)
theorem dX7_read_2 : decode cX7_read 2 = .ok (.putfield 240, 3) := o_181 (bg_dX7_read_0 2 181 rfl) (bg_dX7_read_0 3 0 rfl) (bg_dX7_read_0 4 240 rfl)
theorem dX7_read_5 : decode cX7_read 5 = .ok (.aload_n 0, 1) := o_42 (bg_dX7_read_0 5 42 rfl)
theorem dX7_read_6 : decode cX7_read 6 = .ok (.iconst 0, 1) := o_3 (bg_dX7_read_0 6 3 rfl)
theorem dX7_read_7 : decode cX7_read 7 = .ok (.putfield 143, 3) := o_181 (bg_dX7_read_0 7 181 rfl) (bg_dX7_read_0 8 0 rfl) (bg_dX7_read_0 9 143 rfl)
theorem dX7_read_10 : decode cX7_read 10 = .ok (.aload_n 0, 1) := o_42 (bg_dX7_read_0 10 42 rfl)
theorem dX7_read_11 : decode cX7_read 11 = .ok (.invokevirtual 185, 3) := o_182 (bg_dX7_read_0 11 182 rfl) (bg_dX7_read_0 12 0 rfl) (bg_dX7_read_0 13 185 rfl)
theorem dX7_read_14 : decode cX7_read 14 = .ok (.aload_n 0, 1) := o_42 (bg_dX7_read_0 14 42 rfl)
theorem dX7_read_15 : decode cX7_read 15 = .ok (.invokevirtual 243, 3) := o_182 (bg_dX7_read_0 15 182 rfl) (bg_dX7_read_0 16 0 rfl) (bg_dX7_read_0 17 243 rfl)
theorem dX7_read_18 : decode cX7_read 18 = .ok (.ifCond .ne 5, 3) := o_154 (bg_dX7_read_0 18 154 rfl) (bg_dX7_read_0 19 0 rfl) (bg_dX7_read_0 20 5 rfl) (by decide +kernel)
theorem dX7_read_21 : decode cX7_read 21 = .ok (.iconst 0, 1) := o_3 (bg_dX7_read_0 21 3 rfl)
theorem dX7_read_22 : decode cX7_read 22 = .ok (.ireturn, 1) := o_172 (bg_dX7_read_0 22 172 rfl)
theorem dX7_read_23 : decode cX7_read 23 = .ok (.aload_n 0, 1) := o_42 (bg_dX7_read_0 23 42 rfl)
theorem bg_dX7_read_24 : bysAt cX7_read 24 [180, 0, 153, 153, 0, 42, 42, 180, 0, 153, 6, 159, 0, 8, 42, 182, 0, 181, 172, 42, 182, 0, 185, 42, 182, 0, 243, 154, 0, 5] := bysAt_of (by decide +kernel)
theorem dX7_read_24 : decode cX7_read 24 = .ok (.getfield 153, 3) := o_180 (bg_dX7_read_24 0 180 rfl) (bg_dX7_read_24 1 0 rfl) (bg_dX7_read_24 2 153 rfl)
theorem dX7_read_27 : decode cX7_read 27 = .ok (.ifCond .eq 42, 3) := o_153 (bg_dX7_read_24 3 153 rfl) (bg_dX7_read_24 4 0 rfl) (bg_dX7_read_24 5 42 rfl) (by decide +kernel)
theorem dX7_read_30 : decode cX7_read 30 = .ok (.aload_n 0, 1) := o_42 (bg_dX7_read_24 6 42 rfl)
theorem dX7_read_31 : decode cX7_read 31 = .ok (.getfield 153, 3) := o_180 (bg_dX7_read_24 7 180 rfl) (bg_dX7_read_24 8 0 rfl) (bg_dX7_read_24 9 153 rfl)
theorem dX7_read_34 : decode cX7_read 34 = .ok (.iconst 3, 1) := o_6 (bg_dX7_read_24 10 6 rfl)
theorem dX7_read_35 : decode cX7_read 35 = .ok (.if_icmp .eq 8, 3) := o_159 (bg_dX7_read_24 11 159 rfl) (bg_dX7_read_24 12 0 rfl) (bg_dX7_read_24 13 8 rfl) (by decide +kernel)
theorem dX7_read_38 : decode cX7_read 38 = .ok (.aload_n 0, 1) := o_42 (bg_dX7_read_24 14 42 rfl)
theorem dX7_read_39 : decode cX7_read 39 = .ok (.invokevirtual 181, 3) := o_182 (bg_dX7_read_24 15 182 rfl) (bg_dX7_read_24 16 0 rfl) (bg_dX7_read_24 17 181 rfl)
theorem dX7_read_42 : decode cX7_read 42 = .ok (.ireturn, 1) := o_172 (bg_dX7_read_24 18 172 rfl)
theorem dX7_read_43 : decode cX7_read 43 = .ok (.aload_n 0, 1) := o_42 (bg_dX7_read_24 19 42 rfl)
theorem dX7_read_44 : decode cX7_read 44 = .ok (.invokevirtual 185, 3) := o_182 (bg_dX7_read_24 20 182 rfl) (bg_dX7_read_24 21 0 rfl) (bg_dX7_read_24 22 185 rfl)
theorem dX7_read_47 : decode cX7_read 47 = .ok (.aload_n 0, 1) := o_42 (bg_dX7_read_24 23 42 rfl)
theorem dX7_read_48 : decode cX7_read 48 = .ok (.invokevirtual 243, 3) := o_182 (bg_dX7_read_24 24 182 rfl) (bg_dX7_read_24 25 0 rfl) (bg_dX7_read_24 26 243 rfl)
theorem dX7_read_51 : decode cX7_read 51 = .ok (.ifCond .ne 5, 3) := o_154 (bg_dX7_read_24 27 154 rfl) (bg_dX7_read_24 28 0 rfl) (bg_dX7_read_24 29 5 rfl) (by decide +kernel)
theorem bg_dX7_read_54 : bysAt cX7_read 54 [3, 172, 42, 89, 180, 0, 240, 4, 96, 181, 0, 240, 167, 255, 213, 4, 172] := bysAt_of (by decide +kernel)
theorem dX7_read_54 : decode cX7_read 54 = .ok (.iconst 0, 1) := o_3 (bg_dX7_read_54 0 3 rfl)
theorem dX7_read_55 : decode cX7_read 55 = .ok (.ireturn, 1) := o_172 (bg_dX7_read_54 1 172 rfl)
theorem dX7_read_56 : decode cX7_read 56 = .ok (.aload_n 0, 1) := o_42 (bg_dX7_read_54 2 42 rfl)
theorem dX7_read_57 : decode cX7_read 57 = .ok (.dup, 1) := o_89 (bg_dX7_read_54 3 89 rfl)
theorem dX7_read_58 : decode cX7_read 58 = .ok (.getfield 240, 3) := o_180 (bg_dX7_read_54 4 180 rfl) (bg_dX7_read_54 5 0 rfl) (bg_dX7_read_54 6 240 rfl)
theorem dX7_read_61 : decode cX7_read 61 = .ok (.iconst 1, 1) := o_4 (bg_dX7_read_54 7 4 rfl)
theorem dX7_read_62 : decode cX7_read 62 = .ok (.iadd, 1) := o_96 (bg_dX7_read_54 8 96 rfl)
theorem dX7_read_63 : decode cX7_read 63 = .ok (.putfield 240, 3) := o_181 (bg_dX7_read_54 9 181 rfl) (bg_dX7_read_54 10 0 rfl) (bg_dX7_read_54 11 240 rfl)
theorem dX7_read_66 : decode cX7_read 66 = .ok (.goto (-43), 3) := o_167 (bg_dX7_read_54 12 167 rfl) (bg_dX7_read_54 13 255 rfl) (bg_dX7_read_54 14 213 rfl) (by decide +kernel)
theorem dX7_read_69 : decode cX7_read 69 = .ok (.iconst 1, 1) := o_4 (bg_dX7_read_54 15 4 rfl)
theorem dX7_read_70 : decode cX7_read 70 = .ok (.ireturn, 1) := o_172 (bg_dX7_read_54 16 172 rfl)
theorem bg_dX7_statement_0 : bysAt cX7_statement 0 [42, 18, 200, 182, 0, 188, 153, 0, 26, 42, 180, 0, 66, 16, 24, 162, 0, 17, 42, 42, 180, 0, 39, 42, 180, 0, 66, 50] := bysAt_of (by decide +kernel)
theorem dX7_statement_0 : decode cX7_statement 0 = .ok (.aload_n 0, 1) := o_42 (bg_dX7_statement_0 0 42 rfl)
theorem dX7_statement_1 : decode cX7_statement 1 = .ok (.ldc 200, 2) := o_18 (bg_dX7_statement_0 1 18 rfl) (bg_dX7_statement_0 2 200 rfl)
theorem dX7_statement_3 : decode cX7_statement 3 = .ok (.invokevirtual 188, 3) := o_182 (bg_dX7_statement_0 3 182 rfl) (bg_dX7_statement_0 4 0 rfl) (bg_dX7_statement_0 5 188 rfl)
theorem dX7_statement_6 : decode cX7_statement 6 = .ok (.ifCond .eq 26, 3) := o_153 (bg_dX7_statement_0 6 153 rfl) (bg_dX7_statement_0 7 0 rfl) (bg_dX7_statement_0 8 26 rfl) (by decide +kernel)
theorem dX7_statement_9 : decode cX7_statement 9 = .ok (.aload_n 0, 1) := o_42 (bg_dX7_statement_0 9 42 rfl)
theorem dX7_statement_10 : decode cX7_statement 10 = .ok (.getfield 66, 3) := o_180 (bg_dX7_statement_0 10 180 rfl) (bg_dX7_statement_0 11 0 rfl) (bg_dX7_statement_0 12 66 rfl)
theorem dX7_statement_13 : decode cX7_statement 13 = .ok (.bipush 24, 2) := o_16 (bg_dX7_statement_0 13 16 rfl) (bg_dX7_statement_0 14 24 rfl) (by decide +kernel)
theorem dX7_statement_15 : decode cX7_statement 15 = .ok (.if_icmp .ge 17, 3) := o_162 (bg_dX7_statement_0 15 162 rfl) (bg_dX7_statement_0 16 0 rfl) (bg_dX7_statement_0 17 17 rfl) (by decide +kernel)
theorem dX7_statement_18 : decode cX7_statement 18 = .ok (.aload_n 0, 1) := o_42 (bg_dX7_statement_0 18 42 rfl)
theorem dX7_statement_19 : decode cX7_statement 19 = .ok (.aload_n 0, 1) := o_42 (bg_dX7_statement_0 19 42 rfl)
theorem dX7_statement_20 : decode cX7_statement 20 = .ok (.getfield 39, 3) := o_180 (bg_dX7_statement_0 20 180 rfl) (bg_dX7_statement_0 21 0 rfl) (bg_dX7_statement_0 22 39 rfl)
theorem dX7_statement_23 : decode cX7_statement 23 = .ok (.aload_n 0, 1) := o_42 (bg_dX7_statement_0 23 42 rfl)
theorem dX7_statement_24 : decode cX7_statement 24 = .ok (.getfield 66, 3) := o_180 (bg_dX7_statement_0 24 180 rfl) (bg_dX7_statement_0 25 0 rfl) (bg_dX7_statement_0 26 66 rfl)
theorem dX7_statement_27 : decode cX7_statement 27 = .ok (.aaload, 1) := o_50 (bg_dX7_statement_0 27 50 rfl)
theorem bg_dX7_statement_28 : bysAt cX7_statement 28 [182, 0, 201, 172, 42, 18, 205, 182, 0, 188, 153, 0, 26, 42, 180, 0, 70, 16, 16, 162, 0, 17, 42, 42, 180, 0, 42, 42] := bysAt_of (by decide +kernel)
theorem dX7_statement_28 : decode cX7_statement 28 = .ok (.invokevirtual 201, 3) := o_182 (bg_dX7_statement_28 0 182 rfl) (bg_dX7_statement_28 1 0 rfl) (bg_dX7_statement_28 2 201 rfl)
theorem dX7_statement_31 : decode cX7_statement 31 = .ok (.ireturn, 1) := o_172 (bg_dX7_statement_28 3 172 rfl)
theorem dX7_statement_32 : decode cX7_statement 32 = .ok (.aload_n 0, 1) := o_42 (bg_dX7_statement_28 4 42 rfl)
theorem dX7_statement_33 : decode cX7_statement 33 = .ok (.ldc 205, 2) := o_18 (bg_dX7_statement_28 5 18 rfl) (bg_dX7_statement_28 6 205 rfl)
theorem dX7_statement_35 : decode cX7_statement 35 = .ok (.invokevirtual 188, 3) := o_182 (bg_dX7_statement_28 7 182 rfl) (bg_dX7_statement_28 8 0 rfl) (bg_dX7_statement_28 9 188 rfl)
theorem dX7_statement_38 : decode cX7_statement 38 = .ok (.ifCond .eq 26, 3) := o_153 (bg_dX7_statement_28 10 153 rfl) (bg_dX7_statement_28 11 0 rfl) (bg_dX7_statement_28 12 26 rfl) (by decide +kernel)
theorem dX7_statement_41 : decode cX7_statement 41 = .ok (.aload_n 0, 1) := o_42 (bg_dX7_statement_28 13 42 rfl)
theorem dX7_statement_42 : decode cX7_statement 42 = .ok (.getfield 70, 3) := o_180 (bg_dX7_statement_28 14 180 rfl) (bg_dX7_statement_28 15 0 rfl) (bg_dX7_statement_28 16 70 rfl)
theorem dX7_statement_45 : decode cX7_statement 45 = .ok (.bipush 16, 2) := o_16 (bg_dX7_statement_28 17 16 rfl) (bg_dX7_statement_28 18 16 rfl) (by decide +kernel)
theorem dX7_statement_47 : decode cX7_statement 47 = .ok (.if_icmp .ge 17, 3) := o_162 (bg_dX7_statement_28 19 162 rfl) (bg_dX7_statement_28 20 0 rfl) (bg_dX7_statement_28 21 17 rfl) (by decide +kernel)
theorem dX7_statement_50 : decode cX7_statement 50 = .ok (.aload_n 0, 1) := o_42 (bg_dX7_statement_28 22 42 rfl)
theorem dX7_statement_51 : decode cX7_statement 51 = .ok (.aload_n 0, 1) := o_42 (bg_dX7_statement_28 23 42 rfl)
theorem dX7_statement_52 : decode cX7_statement 52 = .ok (.getfield 42, 3) := o_180 (bg_dX7_statement_28 24 180 rfl) (bg_dX7_statement_28 25 0 rfl) (bg_dX7_statement_28 26 42 rfl)
theorem dX7_statement_55 : decode cX7_statement 55 = .ok (.aload_n 0, 1) := o_42 (bg_dX7_statement_28 27 42 rfl)
theorem bg_dX7_statement_56 : bysAt cX7_statement 56 [180, 0, 70, 50, 182, 0, 206, 172, 42, 18, 209, 182, 0, 188, 153, 0, 77, 42, 180, 0, 73, 8, 162, 0, 69, 42, 180, 0, 45] := bysAt_of (by decide +kernel)
theorem dX7_statement_56 : decode cX7_statement 56 = .ok (.getfield 70, 3) := o_180 (bg_dX7_statement_56 0 180 rfl) (bg_dX7_statement_56 1 0 rfl) (bg_dX7_statement_56 2 70 rfl)
theorem dX7_statement_59 : decode cX7_statement 59 = .ok (.aaload, 1) := o_50 (bg_dX7_statement_56 3 50 rfl)
theorem dX7_statement_60 : decode cX7_statement 60 = .ok (.invokevirtual 206, 3) := o_182 (bg_dX7_statement_56 4 182 rfl) (bg_dX7_statement_56 5 0 rfl) (bg_dX7_statement_56 6 206 rfl)
theorem dX7_statement_63 : decode cX7_statement 63 = .ok (.ireturn, 1) := o_172 (bg_dX7_statement_56 7 172 rfl)
theorem dX7_statement_64 : decode cX7_statement 64 = .ok (.aload_n 0, 1) := o_42 (bg_dX7_statement_56 8 42 rfl)
theorem dX7_statement_65 : decode cX7_statement 65 = .ok (.ldc 209, 2) := o_18 (bg_dX7_statement_56 9 18 rfl) (bg_dX7_statement_56 10 209 rfl)
theorem dX7_statement_67 : decode cX7_statement 67 = .ok (.invokevirtual 188, 3) := o_182 (bg_dX7_statement_56 11 182 rfl) (bg_dX7_statement_56 12 0 rfl) (bg_dX7_statement_56 13 188 rfl)
theorem dX7_statement_70 : decode cX7_statement 70 = .ok (.ifCond .eq 77, 3) := o_153 (bg_dX7_statement_56 14 153 rfl) (bg_dX7_statement_56 15 0 rfl) (bg_dX7_statement_56 16 77 rfl) (by decide +kernel)
theorem dX7_statement_73 : decode cX7_statement 73 = .ok (.aload_n 0, 1) := o_42 (bg_dX7_statement_56 17 42 rfl)
theorem dX7_statement_74 : decode cX7_statement 74 = .ok (.getfield 73, 3) := o_180 (bg_dX7_statement_56 18 180 rfl) (bg_dX7_statement_56 19 0 rfl) (bg_dX7_statement_56 20 73 rfl)
theorem dX7_statement_77 : decode cX7_statement 77 = .ok (.iconst 5, 1) := o_8 (bg_dX7_statement_56 21 8 rfl)
theorem dX7_statement_78 : decode cX7_statement 78 = .ok (.if_icmp .ge 69, 3) := o_162 (bg_dX7_statement_56 22 162 rfl) (bg_dX7_statement_56 23 0 rfl) (bg_dX7_statement_56 24 69 rfl) (by decide +kernel)
theorem dX7_statement_81 : decode cX7_statement 81 = .ok (.aload_n 0, 1) := o_42 (bg_dX7_statement_56 25 42 rfl)
theorem dX7_statement_82 : decode cX7_statement 82 = .ok (.getfield 45, 3) := o_180 (bg_dX7_statement_56 26 180 rfl) (bg_dX7_statement_56 27 0 rfl) (bg_dX7_statement_56 28 45 rfl)
theorem bg_dX7_statement_85 : bysAt cX7_statement 85 [42, 180, 0, 73, 50, 76, 42, 18, 209, 43, 3, 5, 16, 12, 182, 0, 196, 153, 0, 31, 42, 18, 210] := bysAt_of (by decide +kernel)
theorem dX7_statement_85 : decode cX7_statement 85 = .ok (.aload_n 0, 1) := o_42 (bg_dX7_statement_85 0 42 rfl)
theorem dX7_statement_86 : decode cX7_statement 86 = .ok (.getfield 73, 3) := o_180 (bg_dX7_statement_85 1 180 rfl) (bg_dX7_statement_85 2 0 rfl) (bg_dX7_statement_85 3 73 rfl)
theorem dX7_statement_89 : decode cX7_statement 89 = .ok (.aaload, 1) := o_50 (bg_dX7_statement_85 4 50 rfl)
theorem dX7_statement_90 : decode cX7_statement 90 = .ok (.astore_n 1, 1) := o_76 (bg_dX7_statement_85 5 76 rfl)
theorem dX7_statement_91 : decode cX7_statement 91 = .ok (.aload_n 0, 1) := o_42 (bg_dX7_statement_85 6 42 rfl)
theorem dX7_statement_92 : decode cX7_statement 92 = .ok (.ldc 209, 2) := o_18 (bg_dX7_statement_85 7 18 rfl) (bg_dX7_statement_85 8 209 rfl)
theorem dX7_statement_94 : decode cX7_statement 94 = .ok (.aload_n 1, 1) := o_43 (bg_dX7_statement_85 9 43 rfl)
theorem dX7_statement_95 : decode cX7_statement 95 = .ok (.iconst 0, 1) := o_3 (bg_dX7_statement_85 10 3 rfl)
theorem dX7_statement_96 : decode cX7_statement 96 = .ok (.iconst 2, 1) := o_5 (bg_dX7_statement_85 11 5 rfl)
theorem dX7_statement_97 : decode cX7_statement 97 = .ok (.bipush 12, 2) := o_16 (bg_dX7_statement_85 12 16 rfl) (bg_dX7_statement_85 13 12 rfl) (by decide +kernel)
theorem dX7_statement_99 : decode cX7_statement 99 = .ok (.invokevirtual 196, 3) := o_182 (bg_dX7_statement_85 14 182 rfl) (bg_dX7_statement_85 15 0 rfl) (bg_dX7_statement_85 16 196 rfl)
theorem dX7_statement_102 : decode cX7_statement 102 = .ok (.ifCond .eq 31, 3) := o_153 (bg_dX7_statement_85 17 153 rfl) (bg_dX7_statement_85 18 0 rfl) (bg_dX7_statement_85 19 31 rfl) (by decide +kernel)
theorem dX7_statement_105 : decode cX7_statement 105 = .ok (.aload_n 0, 1) := o_42 (bg_dX7_statement_85 20 42 rfl)
theorem dX7_statement_106 : decode cX7_statement 106 = .ok (.ldc 210, 2) := o_18 (bg_dX7_statement_85 21 18 rfl) (bg_dX7_statement_85 22 210 rfl)
theorem bg_dX7_statement_108 : bysAt cX7_statement 108 [43, 4, 4, 16, 9, 182, 0, 196, 153, 0, 17, 42, 18, 212, 43, 5, 3, 16, 99, 182, 0, 196, 154, 0, 5] := bysAt_of (by decide +kernel)
theorem dX7_statement_108 : decode cX7_statement 108 = .ok (.aload_n 1, 1) := o_43 (bg_dX7_statement_108 0 43 rfl)
theorem dX7_statement_109 : decode cX7_statement 109 = .ok (.iconst 1, 1) := o_4 (bg_dX7_statement_108 1 4 rfl)
theorem dX7_statement_110 : decode cX7_statement 110 = .ok (.iconst 1, 1) := o_4 (bg_dX7_statement_108 2 4 rfl)
theorem dX7_statement_111 : decode cX7_statement 111 = .ok (.bipush 9, 2) := o_16 (bg_dX7_statement_108 3 16 rfl) (bg_dX7_statement_108 4 9 rfl) (by decide +kernel)
theorem dX7_statement_113 : decode cX7_statement 113 = .ok (.invokevirtual 196, 3) := o_182 (bg_dX7_statement_108 5 182 rfl) (bg_dX7_statement_108 6 0 rfl) (bg_dX7_statement_108 7 196 rfl)
theorem dX7_statement_116 : decode cX7_statement 116 = .ok (.ifCond .eq 17, 3) := o_153 (bg_dX7_statement_108 8 153 rfl) (bg_dX7_statement_108 9 0 rfl) (bg_dX7_statement_108 10 17 rfl) (by decide +kernel)
theorem dX7_statement_119 : decode cX7_statement 119 = .ok (.aload_n 0, 1) := o_42 (bg_dX7_statement_108 11 42 rfl)
theorem dX7_statement_120 : decode cX7_statement 120 = .ok (.ldc 212, 2) := o_18 (bg_dX7_statement_108 12 18 rfl) (bg_dX7_statement_108 13 212 rfl)
theorem dX7_statement_122 : decode cX7_statement 122 = .ok (.aload_n 1, 1) := o_43 (bg_dX7_statement_108 14 43 rfl)
theorem dX7_statement_123 : decode cX7_statement 123 = .ok (.iconst 2, 1) := o_5 (bg_dX7_statement_108 15 5 rfl)
theorem dX7_statement_124 : decode cX7_statement 124 = .ok (.iconst 0, 1) := o_3 (bg_dX7_statement_108 16 3 rfl)
theorem dX7_statement_125 : decode cX7_statement 125 = .ok (.bipush 99, 2) := o_16 (bg_dX7_statement_108 17 16 rfl) (bg_dX7_statement_108 18 99 rfl) (by decide +kernel)
theorem dX7_statement_127 : decode cX7_statement 127 = .ok (.invokevirtual 196, 3) := o_182 (bg_dX7_statement_108 19 182 rfl) (bg_dX7_statement_108 20 0 rfl) (bg_dX7_statement_108 21 196 rfl)
theorem dX7_statement_130 : decode cX7_statement 130 = .ok (.ifCond .ne 5, 3) := o_154 (bg_dX7_statement_108 22 154 rfl) (bg_dX7_statement_108 23 0 rfl) (bg_dX7_statement_108 24 5 rfl) (by decide +kernel)
theorem bg_dX7_statement_133 : bysAt cX7_statement 133 [3, 172, 42, 89, 180, 0, 73, 4, 96, 181, 0, 73, 4, 172, 42, 18, 214, 182, 0, 188, 153, 0, 67] := bysAt_of (by decide +kernel)
theorem dX7_statement_133 : decode cX7_statement 133 = .ok (.iconst 0, 1) := o_3 (bg_dX7_statement_133 0 3 rfl)
theorem dX7_statement_134 : decode cX7_statement 134 = .ok (.ireturn, 1) := o_172 (bg_dX7_statement_133 1 172 rfl)
theorem dX7_statement_135 : decode cX7_statement 135 = .ok (.aload_n 0, 1) := o_42 (bg_dX7_statement_133 2 42 rfl)
theorem dX7_statement_136 : decode cX7_statement 136 = .ok (.dup, 1) := o_89 (bg_dX7_statement_133 3 89 rfl)
theorem dX7_statement_137 : decode cX7_statement 137 = .ok (.getfield 73, 3) := o_180 (bg_dX7_statement_133 4 180 rfl) (bg_dX7_statement_133 5 0 rfl) (bg_dX7_statement_133 6 73 rfl)
theorem dX7_statement_140 : decode cX7_statement 140 = .ok (.iconst 1, 1) := o_4 (bg_dX7_statement_133 7 4 rfl)
theorem dX7_statement_141 : decode cX7_statement 141 = .ok (.iadd, 1) := o_96 (bg_dX7_statement_133 8 96 rfl)
theorem dX7_statement_142 : decode cX7_statement 142 = .ok (.putfield 73, 3) := o_181 (bg_dX7_statement_133 9 181 rfl) (bg_dX7_statement_133 10 0 rfl) (bg_dX7_statement_133 11 73 rfl)
theorem dX7_statement_145 : decode cX7_statement 145 = .ok (.iconst 1, 1) := o_4 (bg_dX7_statement_133 12 4 rfl)
theorem dX7_statement_146 : decode cX7_statement 146 = .ok (.ireturn, 1) := o_172 (bg_dX7_statement_133 13 172 rfl)
theorem dX7_statement_147 : decode cX7_statement 147 = .ok (.aload_n 0, 1) := o_42 (bg_dX7_statement_133 14 42 rfl)
theorem dX7_statement_148 : decode cX7_statement 148 = .ok (.ldc 214, 2) := o_18 (bg_dX7_statement_133 15 18 rfl) (bg_dX7_statement_133 16 214 rfl)
theorem dX7_statement_150 : decode cX7_statement 150 = .ok (.invokevirtual 188, 3) := o_182 (bg_dX7_statement_133 17 182 rfl) (bg_dX7_statement_133 18 0 rfl) (bg_dX7_statement_133 19 188 rfl)
theorem dX7_statement_153 : decode cX7_statement 153 = .ok (.ifCond .eq 67, 3) := o_153 (bg_dX7_statement_133 20 153 rfl) (bg_dX7_statement_133 21 0 rfl) (bg_dX7_statement_133 22 67 rfl) (by decide +kernel)
theorem bg_dX7_statement_156 : bysAt cX7_statement 156 [42, 180, 0, 80, 8, 162, 0, 59, 42, 18, 214, 42, 180, 0, 48, 42, 180, 0, 80, 50, 3, 4, 16, 99] := bysAt_of (by decide +kernel)
theorem dX7_statement_156 : decode cX7_statement 156 = .ok (.aload_n 0, 1) := o_42 (bg_dX7_statement_156 0 42 rfl)
theorem dX7_statement_157 : decode cX7_statement 157 = .ok (.getfield 80, 3) := o_180 (bg_dX7_statement_156 1 180 rfl) (bg_dX7_statement_156 2 0 rfl) (bg_dX7_statement_156 3 80 rfl)
theorem dX7_statement_160 : decode cX7_statement 160 = .ok (.iconst 5, 1) := o_8 (bg_dX7_statement_156 4 8 rfl)
theorem dX7_statement_161 : decode cX7_statement 161 = .ok (.if_icmp .ge 59, 3) := o_162 (bg_dX7_statement_156 5 162 rfl) (bg_dX7_statement_156 6 0 rfl) (bg_dX7_statement_156 7 59 rfl) (by decide +kernel)
theorem dX7_statement_164 : decode cX7_statement 164 = .ok (.aload_n 0, 1) := o_42 (bg_dX7_statement_156 8 42 rfl)
theorem dX7_statement_165 : decode cX7_statement 165 = .ok (.ldc 214, 2) := o_18 (bg_dX7_statement_156 9 18 rfl) (bg_dX7_statement_156 10 214 rfl)
theorem dX7_statement_167 : decode cX7_statement 167 = .ok (.aload_n 0, 1) := o_42 (bg_dX7_statement_156 11 42 rfl)
theorem dX7_statement_168 : decode cX7_statement 168 = .ok (.getfield 48, 3) := o_180 (bg_dX7_statement_156 12 180 rfl) (bg_dX7_statement_156 13 0 rfl) (bg_dX7_statement_156 14 48 rfl)
theorem dX7_statement_171 : decode cX7_statement 171 = .ok (.aload_n 0, 1) := o_42 (bg_dX7_statement_156 15 42 rfl)
theorem dX7_statement_172 : decode cX7_statement 172 = .ok (.getfield 80, 3) := o_180 (bg_dX7_statement_156 16 180 rfl) (bg_dX7_statement_156 17 0 rfl) (bg_dX7_statement_156 18 80 rfl)
theorem dX7_statement_175 : decode cX7_statement 175 = .ok (.aaload, 1) := o_50 (bg_dX7_statement_156 19 50 rfl)
theorem dX7_statement_176 : decode cX7_statement 176 = .ok (.iconst 0, 1) := o_3 (bg_dX7_statement_156 20 3 rfl)
theorem dX7_statement_177 : decode cX7_statement 177 = .ok (.iconst 1, 1) := o_4 (bg_dX7_statement_156 21 4 rfl)
theorem dX7_statement_178 : decode cX7_statement 178 = .ok (.bipush 99, 2) := o_16 (bg_dX7_statement_156 22 16 rfl) (bg_dX7_statement_156 23 99 rfl) (by decide +kernel)
theorem bg_dX7_statement_180 : bysAt cX7_statement 180 [182, 0, 196, 153, 0, 23, 42, 42, 180, 0, 48, 42, 180, 0, 80, 50, 4, 3, 16, 99, 182, 0, 192, 154, 0, 5, 3] := bysAt_of (by decide +kernel)
theorem dX7_statement_180 : decode cX7_statement 180 = .ok (.invokevirtual 196, 3) := o_182 (bg_dX7_statement_180 0 182 rfl) (bg_dX7_statement_180 1 0 rfl) (bg_dX7_statement_180 2 196 rfl)
theorem dX7_statement_183 : decode cX7_statement 183 = .ok (.ifCond .eq 23, 3) := o_153 (bg_dX7_statement_180 3 153 rfl) (bg_dX7_statement_180 4 0 rfl) (bg_dX7_statement_180 5 23 rfl) (by decide +kernel)
theorem dX7_statement_186 : decode cX7_statement 186 = .ok (.aload_n 0, 1) := o_42 (bg_dX7_statement_180 6 42 rfl)
theorem dX7_statement_187 : decode cX7_statement 187 = .ok (.aload_n 0, 1) := o_42 (bg_dX7_statement_180 7 42 rfl)
theorem dX7_statement_188 : decode cX7_statement 188 = .ok (.getfield 48, 3) := o_180 (bg_dX7_statement_180 8 180 rfl) (bg_dX7_statement_180 9 0 rfl) (bg_dX7_statement_180 10 48 rfl)
theorem dX7_statement_191 : decode cX7_statement 191 = .ok (.aload_n 0, 1) := o_42 (bg_dX7_statement_180 11 42 rfl)
theorem dX7_statement_192 : decode cX7_statement 192 = .ok (.getfield 80, 3) := o_180 (bg_dX7_statement_180 12 180 rfl) (bg_dX7_statement_180 13 0 rfl) (bg_dX7_statement_180 14 80 rfl)
theorem dX7_statement_195 : decode cX7_statement 195 = .ok (.aaload, 1) := o_50 (bg_dX7_statement_180 15 50 rfl)
theorem dX7_statement_196 : decode cX7_statement 196 = .ok (.iconst 1, 1) := o_4 (bg_dX7_statement_180 16 4 rfl)
theorem dX7_statement_197 : decode cX7_statement 197 = .ok (.iconst 0, 1) := o_3 (bg_dX7_statement_180 17 3 rfl)
theorem dX7_statement_198 : decode cX7_statement 198 = .ok (.bipush 99, 2) := o_16 (bg_dX7_statement_180 18 16 rfl) (bg_dX7_statement_180 19 99 rfl) (by decide +kernel)
theorem dX7_statement_200 : decode cX7_statement 200 = .ok (.invokevirtual 192, 3) := o_182 (bg_dX7_statement_180 20 182 rfl) (bg_dX7_statement_180 21 0 rfl) (bg_dX7_statement_180 22 192 rfl)
theorem dX7_statement_203 : decode cX7_statement 203 = .ok (.ifCond .ne 5, 3) := o_154 (bg_dX7_statement_180 23 154 rfl) (bg_dX7_statement_180 24 0 rfl) (bg_dX7_statement_180 25 5 rfl) (by decide +kernel)
theorem dX7_statement_206 : decode cX7_statement 206 = .ok (.iconst 0, 1) := o_3 (bg_dX7_statement_180 26 3 rfl)
theorem bg_dX7_statement_207 : bysAt cX7_statement 207 [172, 42, 89, 180, 0, 80, 4, 96, 181, 0, 80, 4, 172, 42, 18, 215, 182, 0, 188, 153, 0, 19, 42] := bysAt_of (by decide +kernel)
theorem dX7_statement_207 : decode cX7_statement 207 = .ok (.ireturn, 1) := o_172 (bg_dX7_statement_207 0 172 rfl)
theorem dX7_statement_208 : decode cX7_statement 208 = .ok (.aload_n 0, 1) := o_42 (bg_dX7_statement_207 1 42 rfl)
theorem dX7_statement_209 : decode cX7_statement 209 = .ok (.dup, 1) := o_89 (bg_dX7_statement_207 2 89 rfl)
theorem dX7_statement_210 : decode cX7_statement 210 = .ok (.getfield 80, 3) := o_180 (bg_dX7_statement_207 3 180 rfl) (bg_dX7_statement_207 4 0 rfl) (bg_dX7_statement_207 5 80 rfl)
theorem dX7_statement_213 : decode cX7_statement 213 = .ok (.iconst 1, 1) := o_4 (bg_dX7_statement_207 6 4 rfl)
theorem dX7_statement_214 : decode cX7_statement 214 = .ok (.iadd, 1) := o_96 (bg_dX7_statement_207 7 96 rfl)
theorem dX7_statement_215 : decode cX7_statement 215 = .ok (.putfield 80, 3) := o_181 (bg_dX7_statement_207 8 181 rfl) (bg_dX7_statement_207 9 0 rfl) (bg_dX7_statement_207 10 80 rfl)
theorem dX7_statement_218 : decode cX7_statement 218 = .ok (.iconst 1, 1) := o_4 (bg_dX7_statement_207 11 4 rfl)
theorem dX7_statement_219 : decode cX7_statement 219 = .ok (.ireturn, 1) := o_172 (bg_dX7_statement_207 12 172 rfl)
theorem dX7_statement_220 : decode cX7_statement 220 = .ok (.aload_n 0, 1) := o_42 (bg_dX7_statement_207 13 42 rfl)
theorem dX7_statement_221 : decode cX7_statement 221 = .ok (.ldc 215, 2) := o_18 (bg_dX7_statement_207 14 18 rfl) (bg_dX7_statement_207 15 215 rfl)
theorem dX7_statement_223 : decode cX7_statement 223 = .ok (.invokevirtual 188, 3) := o_182 (bg_dX7_statement_207 16 182 rfl) (bg_dX7_statement_207 17 0 rfl) (bg_dX7_statement_207 18 188 rfl)
theorem dX7_statement_226 : decode cX7_statement 226 = .ok (.ifCond .eq 19, 3) := o_153 (bg_dX7_statement_207 19 153 rfl) (bg_dX7_statement_207 20 0 rfl) (bg_dX7_statement_207 21 19 rfl) (by decide +kernel)
theorem dX7_statement_229 : decode cX7_statement 229 = .ok (.aload_n 0, 1) := o_42 (bg_dX7_statement_207 22 42 rfl)
theorem bg_dX7_statement_230 : bysAt cX7_statement 230 [18, 215, 42, 180, 0, 51, 3, 3, 17, 3, 132, 182, 0, 196, 172, 42, 18, 217, 42, 180, 0, 51, 4, 3] := bysAt_of (by decide +kernel)
theorem dX7_statement_230 : decode cX7_statement 230 = .ok (.ldc 215, 2) := o_18 (bg_dX7_statement_230 0 18 rfl) (bg_dX7_statement_230 1 215 rfl)
theorem dX7_statement_232 : decode cX7_statement 232 = .ok (.aload_n 0, 1) := o_42 (bg_dX7_statement_230 2 42 rfl)
theorem dX7_statement_233 : decode cX7_statement 233 = .ok (.getfield 51, 3) := o_180 (bg_dX7_statement_230 3 180 rfl) (bg_dX7_statement_230 4 0 rfl) (bg_dX7_statement_230 5 51 rfl)
theorem dX7_statement_236 : decode cX7_statement 236 = .ok (.iconst 0, 1) := o_3 (bg_dX7_statement_230 6 3 rfl)
theorem dX7_statement_237 : decode cX7_statement 237 = .ok (.iconst 0, 1) := o_3 (bg_dX7_statement_230 7 3 rfl)
theorem dX7_statement_238 : decode cX7_statement 238 = .ok (.sipush 900, 3) := o_17 (bg_dX7_statement_230 8 17 rfl) (bg_dX7_statement_230 9 3 rfl) (bg_dX7_statement_230 10 132 rfl) (by decide +kernel)
theorem dX7_statement_241 : decode cX7_statement 241 = .ok (.invokevirtual 196, 3) := o_182 (bg_dX7_statement_230 11 182 rfl) (bg_dX7_statement_230 12 0 rfl) (bg_dX7_statement_230 13 196 rfl)
theorem dX7_statement_244 : decode cX7_statement 244 = .ok (.ireturn, 1) := o_172 (bg_dX7_statement_230 14 172 rfl)
theorem dX7_statement_245 : decode cX7_statement 245 = .ok (.aload_n 0, 1) := o_42 (bg_dX7_statement_230 15 42 rfl)
theorem dX7_statement_246 : decode cX7_statement 246 = .ok (.ldc 217, 2) := o_18 (bg_dX7_statement_230 16 18 rfl) (bg_dX7_statement_230 17 217 rfl)
theorem dX7_statement_248 : decode cX7_statement 248 = .ok (.aload_n 0, 1) := o_42 (bg_dX7_statement_230 18 42 rfl)
theorem dX7_statement_249 : decode cX7_statement 249 = .ok (.getfield 51, 3) := o_180 (bg_dX7_statement_230 19 180 rfl) (bg_dX7_statement_230 20 0 rfl) (bg_dX7_statement_230 21 51 rfl)
theorem dX7_statement_252 : decode cX7_statement 252 = .ok (.iconst 1, 1) := o_4 (bg_dX7_statement_230 22 4 rfl)
theorem dX7_statement_253 : decode cX7_statement 253 = .ok (.iconst 0, 1) := o_3 (bg_dX7_statement_230 23 3 rfl)
theorem bg_dX7_statement_254 : bysAt cX7_statement 254 [16, 99, 182, 0, 196, 172] := bysAt_of (by decide +kernel)
theorem dX7_statement_254 : decode cX7_statement 254 = .ok (.bipush 99, 2) := o_16 (bg_dX7_statement_254 0 16 rfl) (bg_dX7_statement_254 1 99 rfl) (by decide +kernel)
theorem dX7_statement_256 : decode cX7_statement 256 = .ok (.invokevirtual 196, 3) := o_182 (bg_dX7_statement_254 2 182 rfl) (bg_dX7_statement_254 3 0 rfl) (bg_dX7_statement_254 4 196 rfl)
theorem dX7_statement_259 : decode cX7_statement 259 = .ok (.ireturn, 1) := o_172 (bg_dX7_statement_254 5 172 rfl)
theorem pdVX7_bridgeTold : yX7_bridgeTold.cls = RX7 ∧ yX7_bridgeTold.cls ≠ "java/lang/invoke/MethodHandle" ∧ yX7_bridgeTold.cls ≠ "java/lang/invoke/VarHandle" ∧ (parseMethodDescriptor yX7_bridgeTold.desc).map (fun d => d.parameters.length) = some 1 := by decide +kernel
theorem pdVX7_roadTold : yX7_roadTold.cls = RX7 ∧ yX7_roadTold.cls ≠ "java/lang/invoke/MethodHandle" ∧ yX7_roadTold.cls ≠ "java/lang/invoke/VarHandle" ∧ (parseMethodDescriptor yX7_roadTold.desc).map (fun d => d.parameters.length) = some 1 := by decide +kernel
theorem pdVX7_statement : yX7_statement.cls = RX7 ∧ yX7_statement.cls ≠ "java/lang/invoke/MethodHandle" ∧ yX7_statement.cls ≠ "java/lang/invoke/VarHandle" ∧ (parseMethodDescriptor yX7_statement.desc).map (fun d => d.parameters.length) = some 0 := by decide +kernel
