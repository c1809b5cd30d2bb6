set_option maxHeartbeats 4000000 in
set_option maxRecDepth 100000 in
theorem e_X7_findFar (l : Launch) (D : va_G) (E : Nat → ClassId) (G : Nat → Nat) (sz : Nat) (a : Nat → Nat) (C : Nat → va_E) (n : Nat) (hn : 74 ≤ n) (hT : TyM a E C) (x1 : Int32) (x2 : Int32) (x3 : Int32) (x4 : Int32) (hx1 : rg x1 0 4) (hx3 : rg x3 0 15) (hw : oh_pos C x1) : Met l yX7_findFar (oh_w yX7_findFar cX7_findFar 10 none) ({ frames := 5, cells := 0, slots := 0, locals := 123 }) (oh_Pm D E G [.ref (a 0), .int x1, .int x2, .int x3, .int x4] (oh_W n a C) sz) (va_Qv (fun (u : Nat → va_E) => TyM a E u ∧ fr [(15, 16)] [] C u ∧ (∀ A : LA, absM C A → okA A → x1 < A 5 0 2 → rg x4 0 20 → nnL (gb (u 15)) ∧ Dn (EnA A x1 x2 x4) x3.toNatClampNeg 1000000000000 (fL (gb (u 15))))) (oh_B D (va_A (oh_W n a C) sz) (fun u => oh_W n a u)) (va_A (oh_W n a C) sz)) 0 0 (va_A (oh_W n a C) sz) := by
  refine Met.ofW (cc := cX7_findFar) (maxL := 10) (ret := none) (by decide) rfl ?_
  intro p e s m args below meth c s₁ B hml hv
  obtain ⟨rfl, hsz, hP, hK, hD0, hG⟩ := hv
  have hx := B.exec
  have hb := B.bytes
  have hr := B.returns
  have hts := atoms_spec (ws := (oh_w yX7_findFar cX7_findFar 10 none)) B.pre
  have htg : ∀ w ∈ oh_t, w.before _ s = true := fun w h => hts w (List.mem_cons_of_mem _ h)
  have hown : s.vm.findClass RX7 = some m.cls := findClass_of_methodNamed B.named
  have hlocks := B.notSynchronized
  have hT0 := hT
  subst hsz
  have hD := hD0.self (sz := s.heap.size)
  generalize hAe : va_A (oh_W n a C) s.heap.size = A at hD hG ⊢
  have hA : ∀ q : Nat, s.heap.size ≤ q → A q := fun q h => by rw [← hAe]; exact Or.inr h
  have hS : va_S A s.heap s.heap [] := va_S.rf
  have hF : fr [(15, 16)] [] C C := fr_rf
  have hl := lv_entry ([.ref (a 0), .int x1, .int x2, .int x3, .int x4]) (n := 10) (Nat.le_of_ble_eq_true rfl)
  rw [lg_entry_eq]
  generalize (lg_sl ([.ref (a 0), .int x1, .int x2, .int x3, .int x4]) ++ List.replicate (10 - (lg_sl ([.ref (a 0), .int x1, .int x2, .int x3, .int x4])).length) Slot.unset).toArray = ls at hl ⊢
  have hl : lv_has ls 10 [(0, .ref (a 0)), (1, .int x1), (2, .int x2), (3, .int x3), (4, .int x4)] := hl
  refine oh_genQ (fun Q hQ => ?_)
  refine lv_iconst (v := 0) hx hb dX7_findFar_0 (by decide) ?_
  refine lv_istore (lv' := [(5, .int 0), (0, .ref (a 0)), (1, .int x1), (2, .int x2), (3, .int x3), (4, .int x4)]) hx hb dX7_findFar_1 hl (by decide) rfl (fun ls hl => ?_)
  have L_3 : ∀ (d : Nat) (K3 : Nat → va_E) (z3_5 : Int32) (H : Heap) (locs : List Loc) (ls : Array Slot), (16 - z3_5.toInt).toNat = d → rg z3_5 0 16 → (∀ p : Nat, (p : Int) < z3_5.toInt → gb (K3 15) p = if (p : Int) = x3.toInt then 0 else 1000000000000) → TyM a E K3 → fr [(15, 16)] [] C K3 → fr [(15, 16)] [] C K3 → va_P D vwCl (oh_W n a K3) H → va_D A (oh_W n a K3) → va_S A s.heap H locs → lv_has ls 10 [(5, .int z3_5), (0, .ref (a 0)), (1, .int x1), (2, .int x2), (3, .int x3), (4, .int x4)] → W p l e ({ frames := 5, cells := 0, slots := 0, locals := 123 }) s m (([.ref (a 0), .int x1, .int x2, .int x3, .int x4] : List Value).toArray) below meth c H locs 0 0 Q (F0 m 3 ls []) := by
    intro d
    induction d using Nat.strongRecOn with
    | ind d ih_3 =>
    intro K3 z3_5 H locs ls hd_3 hz3_5 hx_3 hT hF hLF_3 hP hD hS hl
    have t_1 := hT
    refine lv_iload hx hb dX7_findFar_3 (lv_at hl 0 rfl) ?_
    refine lv_bipush (v := 16) hx hb dX7_findFar_5 (by decide) ?_
    refine lv_icmp_ge (tgt := 36) hx hb dX7_findFar_7 (by decide) (fun (c_2 : (16 : Int32) ≤ z3_5) => ?_) (fun (c_2 : ¬ ((16 : Int32) ≤ z3_5)) => ?_)
    · refine lv_iconst (v := 0) hx hb dX7_findFar_36 (by decide) ?_
      refine lv_istore (lv' := [(5, .int 0), (0, .ref (a 0)), (1, .int x1), (2, .int x2), (3, .int x3), (4, .int x4)]) hx hb dX7_findFar_37 hl (by decide) rfl (fun ls hl => ?_)
      have L_39 : ∀ (d : Nat) (K39 : Nat → va_E) (z39_5 : Int32) (H : Heap) (locs : List Loc) (ls : Array Slot), (16 - z39_5.toInt).toNat = d → rg z39_5 0 16 → (∀ A : LA, absM C A → okA A → x1 < A 5 0 2 → rg x4 0 20 → rfO (EnA A x1 x2 x4) x3.toNatClampNeg (gb (K39 15)) z39_5.toNatClampNeg) → TyM a E K39 → fr [(15, 16)] [] C K39 → fr [(15, 16)] [] K3 K39 → va_P D vwCl (oh_W n a K39) H → va_D A (oh_W n a K39) → va_S A s.heap H locs → lv_has ls 10 [(5, .int z39_5), (0, .ref (a 0)), (1, .int x1), (2, .int x2), (3, .int x3), (4, .int x4)] → W p l e ({ frames := 5, cells := 0, slots := 0, locals := 123 }) s m (([.ref (a 0), .int x1, .int x2, .int x3, .int x4] : List Value).toArray) below meth c H locs 0 0 Q (F0 m 39 ls []) := by
        intro d
        induction d using Nat.strongRecOn with
        | ind d ih_39 =>
        intro K39 z39_5 H locs ls hd_39 hz39_5 hx_39 hT hF hLF_39 hP hD hS hl
        have t_3 := hT
        refine lv_iload hx hb dX7_findFar_39 (lv_at hl 0 rfl) ?_
        refine lv_bipush (v := 16) hx hb dX7_findFar_41 (by decide) ?_
        refine lv_icmp_ge (tgt := 231) hx hb dX7_findFar_43 (by decide) (fun (c_4 : (16 : Int32) ≤ z39_5) => ?_) (fun (c_4 : ¬ ((16 : Int32) ≤ z39_5)) => ?_)
        · rw [hQ]
          exact W.vret hx hb hr (fun t ht hW => ⟨⟨K39, rfl, ⟨hT, hF, (fun A hA hok hl hn => rfO_e hok hx1 hl hn (p16 hx3) (hx_39 A hA hok hl hn) (k16 (rg_w (lo := 0) (hi := 16) (rn_lel c_4 (rg_c (v := 16) (lo := 16) (hi := 16) (by decide)) hz39_5) (by decide)) c_4))⟩, ⟨by rw [ht]; exact hP, hD⟩⟩, hS.F ht⟩) hS.2.2 dX7_findFar_231
        · refine lv_iconst (v := 0) hx hb dX7_findFar_46 (by decide) ?_
          refine lv_istore (lv' := [(6, .int 0), (5, .int z39_5), (0, .ref (a 0)), (1, .int x1), (2, .int x2), (3, .int x3), (4, .int x4)]) hx hb dX7_findFar_47 hl (by decide) rfl (fun ls hl => ?_)
          have L_49 : ∀ (d : Nat) (K49 : Nat → va_E) (z49_6 : Int32) (H : Heap) (locs : List Loc) (ls : Array Slot), (24 - z49_6.toInt).toNat = d → rg z49_6 0 24 → (∀ A : LA, absM C A → okA A → x1 < A 5 0 2 → rg x4 0 20 → rfI (n0A A) (aA A) (bA A) (gsA A x1 x2) (cnN A x1 x2 x4) x3.toNatClampNeg (gb (K39 15)) (gb (K49 15)) z49_6.toNatClampNeg) → (z49_6.toInt ≤ (gi (C 0) 9).toInt) → TyM a E K49 → fr [(15, 16)] [] C K49 → fr [(15, 16)] [] K39 K49 → va_P D vwCl (oh_W n a K49) H → va_D A (oh_W n a K49) → va_S A s.heap H locs → lv_has ls 10 [(6, .int z49_6), (5, .int z39_5), (0, .ref (a 0)), (1, .int x1), (2, .int x2), (3, .int x3), (4, .int x4)] → W p l e ({ frames := 5, cells := 0, slots := 0, locals := 123 }) s m (([.ref (a 0), .int x1, .int x2, .int x3, .int x4] : List Value).toArray) below meth c H locs 0 0 Q (F0 m 49 ls []) := by
            intro d
            induction d using Nat.strongRecOn with
            | ind d ih_49 =>
            intro K49 z49_6 H locs ls hd_49 hz49_6 hx_49 hy_49 hT hF hLF_49 hP hD hS hl
            have t_5 := hT
            refine lv_iload hx hb dX7_findFar_49 (lv_at hl 0 rfl) ?_
            refine lv_aload_n hx hb dX7_findFar_51 rfl (lv_at hl 2 rfl) ?_
            refine va_get (D := D) (ci := 7) (v := .int (gi (C 0) 9)) (C := RX7) (T := TX7) (N := 29) hx hb htg ig_7 hown hK hP 0 (oh_wg (Nat.lt_of_lt_of_le (by decide) hn) (sM_0 hT)) rfl 9 (by decide) (htg _ q_982) (fun _ h9 => h9) (oh_fv (c := K49 0) (j := 9) rfl (Eq.trans (congrArg vi (hLF_49.2 9 (by decide))) (Eq.trans (congrArg vi (hLF_39.2 9 (by decide))) (congrArg vi (hLF_3.2 9 (by decide)))))) dX7_findFar_52 ?_
            refine lv_icmp_ge (tgt := 225) hx hb dX7_findFar_55 (by decide) (fun (c_6 : (gi (C 0) 9) ≤ z49_6) => ?_) (fun (c_6 : ¬ ((gi (C 0) 9) ≤ z49_6)) => ?_)
            · refine lv_iinc (v := z39_5 + 1) (lv' := [(5, .int (z39_5 + 1)), (6, .int z49_6), (0, .ref (a 0)), (1, .int x1), (2, .int x2), (3, .int x3), (4, .int x4)]) hx hb dX7_findFar_225 hl (k := 1) rfl (by rfl) (by decide) rfl (fun ls hl => ?_)
              refine lv_goto (tgt := 39) hx hb dX7_findFar_228 (by decide) ?_
              exact ih_39 _ (hd_39 ▸ mu_up 16 (rn_ltu (u' := 15) (Int32.not_le.mp c_4) hz39_5 (rg_c (v := 16) (lo := 16) (hi := 16) (by decide)) (by decide)) (by decide)) K49 (z39_5 + 1) _ _ ls rfl (rg_w (rg_add (lo := 1) (hi := 16) (rn_ltu (u' := 15) (Int32.not_le.mp c_4) hz39_5 (rg_c (v := 16) (lo := 16) (hi := 16) (by decide)) (by decide)) (rg_c (v := 1) (lo := 1) (hi := 1) (by decide)) (by decide)) (by decide)) (fun A hA hok hl hn => by rw [z_s15 (rg_w (lo := 0) (hi := 15) (rn_ltu (u' := 15) (Int32.not_le.mp c_4) hz39_5 (rg_c (v := 16) (lo := 16) (hi := 16) (by decide)) (by decide)) (by decide))]; have h7 := hx_49 A hA hok hl hn; rw [n0_M hA c_6 hy_49] at h7; exact rfO_s hok hx1 hl hn (p16 hx3) (hx_39 A hA hok hl hn) h7) hT hF (fr_tr hLF_39 hLF_49 (by decide) (by decide)) hP hD hS (lv_sub hl [0, 2, 3, 4, 5, 6] rfl)
            · refine lv_aload_n hx hb dX7_findFar_58 rfl (lv_at hl 2 rfl) ?_
              refine lv_iload_n hx hb dX7_findFar_59 rfl (lv_at hl 3 rfl) ?_
              refine lv_iload_n hx hb dX7_findFar_60 rfl (lv_at hl 4 rfl) ?_
              refine lv_iload hx hb dX7_findFar_61 (lv_at hl 0 rfl) ?_
              refine tq_V (As := [.int x1, .int x2, .int z49_6]) (rest := []) (ws := (oh_W n a K49)) ⟨hx, hb, hml, hown, htg⟩ (e_X7_goesOf l D E G a K49 n hn hT x1 x2 z49_6 (rg_w hx1 (by decide)) (rg_w (rn_ltu (u' := 23) (Int32.not_le.mp c_6) hz49_6 (fM_0_9 hT0) (by decide)) (by decide)) (oh_posU (rg_w hx1 (by decide)) (fun i hi => hLF_49.1 _ (inR_out hi (by decide)) (by omega)) (oh_posU (rg_w hx1 (by decide)) (fun i hi => hLF_39.1 _ (inR_out hi (by decide)) (by omega)) (oh_posU (rg_w hx1 (by decide)) (fun i hi => hLF_3.1 _ (inR_out hi (by decide)) (by omega)) hw)))) (cwV 3 htg (oh_gV q_1318 q_1320 q_54 q_73 q_1321) rfl rfl rfl pdVX7_goesOf ⟨Nat.le_of_ble_eq_true rfl, Nat.le_of_ble_eq_true rfl⟩) hK hP hG hS (va_recv hK hP (ci := 7) (q0 := 0) rfl (oh_wg (Nat.lt_of_lt_of_le (by decide) hn) (sM_0 hT))) rfl hl.1 rfl (Nat.le_of_ble_eq_true rfl) dX7_findFar_63 ⟨Nat.le_of_ble_eq_true rfl, Nat.le_of_ble_eq_true rfl⟩ (fun r_7 hq_8 => ?_)
              refine lv_if_eq (tgt := 219) hx hb dX7_findFar_66 (by decide) (fun (c_9 : r_7 = 0) => ?_) (fun (c_9 : ¬ (r_7 = 0)) => ?_)
              · refine lv_iinc (v := z49_6 + 1) (lv' := [(6, .int (z49_6 + 1)), (5, .int z39_5), (0, .ref (a 0)), (1, .int x1), (2, .int x2), (3, .int x3), (4, .int x4)]) hx hb dX7_findFar_219 hl (k := 0) rfl (by rfl) (by decide) rfl (fun ls hl => ?_)
                refine lv_goto (tgt := 49) hx hb dX7_findFar_222 (by decide) ?_
                exact ih_49 _ (hd_49 ▸ mu_up 24 (rn_ltu (u' := 23) (Int32.not_le.mp c_6) hz49_6 (fM_0_9 hT0) (by decide)) (by decide)) K49 (z49_6 + 1) _ _ ls rfl (rg_w (rg_add (lo := 1) (hi := 24) (rn_ltu (u' := 23) (Int32.not_le.mp c_6) hz49_6 (fM_0_9 hT0) (by decide)) (rg_c (v := 1) (lo := 1) (hi := 1) (by decide)) (by decide)) (by decide)) (fun A hA hok hl hn => by have iz : rg z49_6 0 23 := (rg_w (lo := 0) (hi := 23) (rn_ltu (u' := 23) (Int32.not_le.mp c_6) hz49_6 (fM_0_9 hT0) (by decide)) (by decide)); have hr : z49_6 < A 5 0 0 := oh_lte (Int32.not_le.mp c_6) (hA.1 0 (by decide)); have hj : z49_6.toNatClampNeg < n0A A := n0_lt iz hr; have hK := absM_fr hA hT0 (show fr [(15, 16)] [] C K49 from (fr_tr (fr_tr (fr_tr fr_rf hLF_3 (by decide) (by decide)) hLF_39 (by decide) (by decide)) hLF_49 (by decide) (by decide))) (by decide) (by decide) (by decide); have hg := hq_8.2 A hK hok hl hr; rw [show (z49_6 + 1).toNatClampNeg = z49_6.toNatClampNeg + 1 from z_s23 iz]; exact rfI_n (hx_49 A hA hok hl hn) (fun q => absurd (Eq.trans (Eq.symm c_9) (hg.mpr q)) (by decide))) (by have h7 := Int32.lt_iff_toInt_lt.mp (Int32.not_le.mp c_6); have h8 : (z49_6 + 1).toInt = z49_6.toInt + 1 := oh_incr (rn_ltu (u' := 23) (Int32.not_le.mp c_6) hz49_6 (fM_0_9 hT0) (by decide)) (by decide); omega) hT hF hLF_49 hP hD hS (lv_sub hl [0, 1, 2, 3, 4, 5, 6] rfl)
              · refine lv_iload hx hb dX7_findFar_69 (lv_at hl 6 rfl) ?_
                refine lv_if_ne (tgt := 85) hx hb dX7_findFar_71 (by decide) (fun (c_10 : ¬ (x4 = 0)) => ?_) (fun (c_10 : x4 = 0) => ?_)
                · refine lv_aload_n hx hb dX7_findFar_85 rfl (lv_at hl 2 rfl) ?_
                  refine lv_iload_n hx hb dX7_findFar_86 rfl (lv_at hl 3 rfl) ?_
                  refine lv_iload_n hx hb dX7_findFar_87 rfl (lv_at hl 4 rfl) ?_
                  refine lv_iload hx hb dX7_findFar_88 (lv_at hl 0 rfl) ?_
                  refine lv_iload hx hb dX7_findFar_90 (lv_at hl 6 rfl) ?_
                  refine tq_V (As := [.int x1, .int x2, .int z49_6, .int x4]) (rest := []) (ws := (oh_W n a K49)) ⟨hx, hb, hml, hown, htg⟩ (e_X7_coinOf l D E G a K49 n hn hT x1 x2 z49_6 x4 (rg_w hx1 (by decide)) (rg_w (rn_ltu (u' := 23) (Int32.not_le.mp c_6) hz49_6 (fM_0_9 hT0) (by decide)) (by decide)) (oh_posU (rg_w hx1 (by decide)) (fun i hi => hLF_49.1 _ (inR_out hi (by decide)) (by omega)) (oh_posU (rg_w hx1 (by decide)) (fun i hi => hLF_39.1 _ (inR_out hi (by decide)) (by omega)) (oh_posU (rg_w hx1 (by decide)) (fun i hi => hLF_3.1 _ (inR_out hi (by decide)) (by omega)) hw)))) (cwV 4 htg (oh_gV q_1326 q_1328 q_56 q_73 q_1329) rfl rfl rfl pdVX7_coinOf ⟨Nat.le_of_ble_eq_true rfl, Nat.le_of_ble_eq_true rfl⟩) hK hP hG hS (va_recv hK hP (ci := 7) (q0 := 0) rfl (oh_wg (Nat.lt_of_lt_of_le (by decide) hn) (sM_0 hT))) rfl hl.1 rfl (Nat.le_of_ble_eq_true rfl) dX7_findFar_92 ⟨Nat.le_of_ble_eq_true rfl, Nat.le_of_ble_eq_true rfl⟩ (fun r_11 hq_12 => ?_)
                  refine lv_istore (lv' := [(7, .int r_11), (6, .int z49_6), (5, .int z39_5), (0, .ref (a 0)), (1, .int x1), (2, .int x2), (3, .int x3), (4, .int x4)]) hx hb dX7_findFar_95 hl (by decide) rfl (fun ls hl => ?_)
                  refine lv_aload_n hx hb dX7_findFar_97 rfl (lv_at hl 3 rfl) ?_
                  refine va_get (D := D) (ci := 7) (v := .ref (a 9)) (C := RX7) (T := TX7) (N := 29) hx hb htg ig_7 hown hK hP 0 (oh_wg (Nat.lt_of_lt_of_le (by decide) hn) (sM_0 hT)) rfl 10 (by decide) (htg _ q_983) (fun _ h9 => h9) rfl dX7_findFar_98 ?_
                  refine lv_iload hx hb dX7_findFar_101 (lv_at hl 1 rfl) ?_
                  have n_13 : vp_in z49_6 24 := (rg_in (rn_ltu (u' := 23) (Int32.not_le.mp c_6) hz49_6 (fM_0_9 hT0) (by decide)) (by decide))
                  have b_14 : (z49_6).toNatClampNeg < 24 := vp_lt n_13
                  refine th_aald hx hb hK hP 9 2 (Nat.lt_of_lt_of_le (by decide) hn) (sM_9 hT) rfl n_13 dX7_findFar_103 ?_
                  refine lv_iconst (v := 0) hx hb dX7_findFar_104 (by decide) ?_
                  refine th_iald hx hb hK hP (24 + (z49_6).toNatClampNeg) (lt_blk b_14 hn (by decide)) (Eq.trans (Eq.trans (hLF_49.1 (24 + (z49_6).toNatClampNeg) (by have h9 := b_14; exact inR_out h9 (by decide)) (by omega)) (Eq.trans (hLF_39.1 (24 + (z49_6).toNatClampNeg) (by have h9 := b_14; exact inR_out h9 (by decide)) (by omega)) (hLF_3.1 (24 + (z49_6).toNatClampNeg) (by have h9 := b_14; exact inR_out h9 (by decide)) (by omega)))) (hT0.broad b_14).1) (rg_in (rg_c (v := 0) (lo := 0) (hi := 0) (by decide)) (by decide)) dX7_findFar_105 ?_
                  refine lv_istore (lv' := [(8, .int (ga (C (24 + (z49_6).toNatClampNeg)) ((0 : Int32)).toNatClampNeg)), (7, .int r_11), (6, .int z49_6), (5, .int z39_5), (0, .ref (a 0)), (1, .int x1), (2, .int x2), (3, .int x3), (4, .int x4)]) hx hb dX7_findFar_106 hl (by decide) rfl (fun ls hl => ?_)
                  refine lv_aload_n hx hb dX7_findFar_108 rfl (lv_at hl 4 rfl) ?_
                  refine va_get (D := D) (ci := 7) (v := .ref (a 9)) (C := RX7) (T := TX7) (N := 29) hx hb htg ig_7 hown hK hP 0 (oh_wg (Nat.lt_of_lt_of_le (by decide) hn) (sM_0 hT)) rfl 10 (by decide) (htg _ q_983) (fun _ h9 => h9) rfl dX7_findFar_109 ?_
                  refine lv_iload hx hb dX7_findFar_112 (lv_at hl 2 rfl) ?_
                  have n_15 : vp_in z49_6 24 := (rg_in (rn_ltu (u' := 23) (Int32.not_le.mp c_6) hz49_6 (fM_0_9 hT0) (by decide)) (by decide))
                  have b_16 : (z49_6).toNatClampNeg < 24 := vp_lt n_15
                  refine th_aald hx hb hK hP 9 2 (Nat.lt_of_lt_of_le (by decide) hn) (sM_9 hT) rfl n_15 dX7_findFar_114 ?_
                  refine lv_iconst (v := 1) hx hb dX7_findFar_115 (by decide) ?_
                  refine th_iald hx hb hK hP (24 + (z49_6).toNatClampNeg) (lt_blk b_16 hn (by decide)) (Eq.trans (Eq.trans (hLF_49.1 (24 + (z49_6).toNatClampNeg) (by have h9 := b_16; exact inR_out h9 (by decide)) (by omega)) (Eq.trans (hLF_39.1 (24 + (z49_6).toNatClampNeg) (by have h9 := b_16; exact inR_out h9 (by decide)) (by omega)) (hLF_3.1 (24 + (z49_6).toNatClampNeg) (by have h9 := b_16; exact inR_out h9 (by decide)) (by omega)))) (hT0.broad b_16).1) (rg_in (rg_c (v := 1) (lo := 1) (hi := 1) (by decide)) (by decide)) dX7_findFar_116 ?_
                  refine lv_istore (lv' := [(9, .int (ga (C (24 + (z49_6).toNatClampNeg)) ((1 : Int32)).toNatClampNeg)), (8, .int (ga (C (24 + (z49_6).toNatClampNeg)) ((0 : Int32)).toNatClampNeg)), (7, .int r_11), (6, .int z49_6), (5, .int z39_5), (0, .ref (a 0)), (1, .int x1), (2, .int x2), (3, .int x3), (4, .int x4)]) hx hb dX7_findFar_117 hl (by decide) rfl (fun ls hl => ?_)
                  refine lv_aload_n hx hb dX7_findFar_119 rfl (lv_at hl 5 rfl) ?_
                  refine va_get (D := D) (ci := 7) (v := .ref (a 15)) (C := RX7) (T := TX7) (N := 29) hx hb htg ig_7 hown hK hP 0 (oh_wg (Nat.lt_of_lt_of_le (by decide) hn) (sM_0 hT)) rfl 27 (by decide) (htg _ q_1000) (fun _ h9 => h9) rfl dX7_findFar_120 ?_
                  refine lv_iload hx hb dX7_findFar_123 (lv_at hl 1 rfl) ?_
                  refine lv_aload_n hx hb dX7_findFar_125 rfl (lv_at hl 5 rfl) ?_
                  refine va_get (D := D) (ci := 7) (v := .ref (a 15)) (C := RX7) (T := TX7) (N := 29) hx hb htg ig_7 hown hK hP 0 (oh_wg (Nat.lt_of_lt_of_le (by decide) hn) (sM_0 hT)) rfl 27 (by decide) (htg _ q_1000) (fun _ h9 => h9) rfl dX7_findFar_126 ?_
                  refine lv_iload hx hb dX7_findFar_129 (lv_at hl 0 rfl) ?_
                  have n_17 : vp_in (ga (C (24 + (z49_6).toNatClampNeg)) ((1 : Int32)).toNatClampNeg) 16 := (rg_in (tA_rdc (lo := 0) (hi := 15) (hT0.broad b_16) (rg_in (rg_c (v := 1) (lo := 1) (hi := 1) (by decide)) (by decide)) (show _ = 1 by decide) (by decide)) (by decide))
                  refine th_lald hx hb hK hP 15 (Nat.lt_of_lt_of_le (by decide) hn) (sM_15 hT) n_17 dX7_findFar_131 ?_
                  refine lv_iload hx hb dX7_findFar_132 (lv_at hl 2 rfl) ?_
                  refine lv_i2l (v := Int32.toInt64 r_11) hx hb dX7_findFar_134 (by rfl) ?_
                  refine lv_ladd hx hb dX7_findFar_135 ?_
                  refine lv_aload_n hx hb dX7_findFar_136 rfl (lv_at hl 5 rfl) ?_
                  refine va_get (D := D) (ci := 7) (v := .ref (a 15)) (C := RX7) (T := TX7) (N := 29) hx hb htg ig_7 hown hK hP 0 (oh_wg (Nat.lt_of_lt_of_le (by decide) hn) (sM_0 hT)) rfl 27 (by decide) (htg _ q_1000) (fun _ h9 => h9) rfl dX7_findFar_137 ?_
                  refine lv_iload hx hb dX7_findFar_140 (lv_at hl 1 rfl) ?_
                  have n_18 : vp_in (ga (C (24 + (z49_6).toNatClampNeg)) ((0 : Int32)).toNatClampNeg) 16 := (rg_in (tA_rdc (lo := 0) (hi := 15) (hT0.broad b_14) (rg_in (rg_c (v := 0) (lo := 0) (hi := 0) (by decide)) (by decide)) (show _ = 0 by decide) (by decide)) (by decide))
                  refine th_lald hx hb hK hP 15 (Nat.lt_of_lt_of_le (by decide) hn) (sM_15 hT) n_18 dX7_findFar_142 ?_
                  refine W.lcmp hx hb dX7_findFar_143 ?_
                  refine lv_if_ge (tgt := 161) hx hb dX7_findFar_144 (by decide) (fun (c_19 : (0 : Int32) ≤ (lg_cmp ((gb (K49 15) (ga (C (24 + (z49_6).toNatClampNeg)) ((1 : Int32)).toNatClampNeg).toNatClampNeg) + (Int32.toInt64 r_11)) (gb (K49 15) (ga (C (24 + (z49_6).toNatClampNeg)) ((0 : Int32)).toNatClampNeg).toNatClampNeg))) => ?_) (fun (c_19 : ¬ ((0 : Int32) ≤ (lg_cmp ((gb (K49 15) (ga (C (24 + (z49_6).toNatClampNeg)) ((1 : Int32)).toNatClampNeg).toNatClampNeg) + (Int32.toInt64 r_11)) (gb (K49 15) (ga (C (24 + (z49_6).toNatClampNeg)) ((0 : Int32)).toNatClampNeg).toNatClampNeg)))) => ?_)
                  · refine lv_aload_n hx hb dX7_findFar_161 rfl (lv_at hl 5 rfl) ?_
                    refine va_get (D := D) (ci := 7) (v := .ref (a 15)) (C := RX7) (T := TX7) (N := 29) hx hb htg ig_7 hown hK hP 0 (oh_wg (Nat.lt_of_lt_of_le (by decide) hn) (sM_0 hT)) rfl 27 (by decide) (htg _ q_1000) (fun _ h9 => h9) rfl dX7_findFar_162 ?_
                    refine lv_iload hx hb dX7_findFar_165 (lv_at hl 1 rfl) ?_
                    have n_20 : vp_in (ga (C (24 + (z49_6).toNatClampNeg)) ((0 : Int32)).toNatClampNeg) 16 := (rg_in (tA_rdc (lo := 0) (hi := 15) (hT0.broad b_14) (rg_in (rg_c (v := 0) (lo := 0) (hi := 0) (by decide)) (by decide)) (show _ = 0 by decide) (by decide)) (by decide))
                    refine th_lald hx hb hK hP 15 (Nat.lt_of_lt_of_le (by decide) hn) (sM_15 hT) n_20 dX7_findFar_167 ?_
                    have n_21 : vp_in (ga (C (24 + (z49_6).toNatClampNeg)) ((0 : Int32)).toNatClampNeg) 16 := (rg_in (tA_rdc (lo := 0) (hi := 15) (hT0.broad b_14) (rg_in (rg_c (v := 0) (lo := 0) (hi := 0) (by decide)) (by decide)) (show _ = 0 by decide) (by decide)) (by decide))
                    refine th_last (T := TyM a E) (Rl := fr [(15, 16)] [] C) hx hb hK hP hD hS 15 (Nat.lt_of_lt_of_le (by decide) hn) (sM_15 hT) n_21 (hT.up 15 (by decide) rfl) (fr_st hF (by decide) (by decide)) dX7_findFar_168 (fun C_22 H locs e_23 hT hF hP hD hS => ?_)
                    have t_24 := hT
                    refine lv_aload_n hx hb dX7_findFar_169 rfl (lv_at hl 5 rfl) ?_
                    refine va_get (D := D) (ci := 7) (v := .ref (a 15)) (C := RX7) (T := TX7) (N := 29) hx hb htg ig_7 hown hK hP 0 (oh_wg (Nat.lt_of_lt_of_le (by decide) hn) (sM_0 hT)) rfl 27 (by decide) (htg _ q_1000) (fun _ h9 => h9) rfl dX7_findFar_170 ?_
                    refine lv_iload hx hb dX7_findFar_173 (lv_at hl 0 rfl) ?_
                    refine lv_aload_n hx hb dX7_findFar_175 rfl (lv_at hl 5 rfl) ?_
                    refine va_get (D := D) (ci := 7) (v := .ref (a 15)) (C := RX7) (T := TX7) (N := 29) hx hb htg ig_7 hown hK hP 0 (oh_wg (Nat.lt_of_lt_of_le (by decide) hn) (sM_0 hT)) rfl 27 (by decide) (htg _ q_1000) (fun _ h9 => h9) rfl dX7_findFar_176 ?_
                    refine lv_iload hx hb dX7_findFar_179 (lv_at hl 1 rfl) ?_
                    have n_25 : vp_in (ga (C (24 + (z49_6).toNatClampNeg)) ((0 : Int32)).toNatClampNeg) 16 := (rg_in (tA_rdc (lo := 0) (hi := 15) (hT0.broad b_14) (rg_in (rg_c (v := 0) (lo := 0) (hi := 0) (by decide)) (by decide)) (show _ = 0 by decide) (by decide)) (by decide))
                    refine th_lald hx hb hK hP 15 (Nat.lt_of_lt_of_le (by decide) hn) (sM_15 hT) n_25 dX7_findFar_181 ?_
                    refine lv_iload hx hb dX7_findFar_182 (lv_at hl 2 rfl) ?_
                    refine lv_i2l (v := Int32.toInt64 r_11) hx hb dX7_findFar_184 (by rfl) ?_
                    refine lv_ladd hx hb dX7_findFar_185 ?_
                    refine lv_aload_n hx hb dX7_findFar_186 rfl (lv_at hl 5 rfl) ?_
                    refine va_get (D := D) (ci := 7) (v := .ref (a 15)) (C := RX7) (T := TX7) (N := 29) hx hb htg ig_7 hown hK hP 0 (oh_wg (Nat.lt_of_lt_of_le (by decide) hn) (sM_0 hT)) rfl 27 (by decide) (htg _ q_1000) (fun _ h9 => h9) rfl dX7_findFar_187 ?_
                    refine lv_iload hx hb dX7_findFar_190 (lv_at hl 0 rfl) ?_
                    have n_26 : vp_in (ga (C (24 + (z49_6).toNatClampNeg)) ((1 : Int32)).toNatClampNeg) 16 := (rg_in (tA_rdc (lo := 0) (hi := 15) (hT0.broad b_16) (rg_in (rg_c (v := 1) (lo := 1) (hi := 1) (by decide)) (by decide)) (show _ = 1 by decide) (by decide)) (by decide))
                    refine th_lald hx hb hK hP 15 (Nat.lt_of_lt_of_le (by decide) hn) (sM_15 hT) n_26 dX7_findFar_192 ?_
                    refine W.lcmp hx hb dX7_findFar_193 ?_
                    refine lv_if_ge (tgt := 211) hx hb dX7_findFar_194 (by decide) (fun (c_27 : (0 : Int32) ≤ (lg_cmp ((gb (C_22 15) (ga (C (24 + (z49_6).toNatClampNeg)) ((0 : Int32)).toNatClampNeg).toNatClampNeg) + (Int32.toInt64 r_11)) (gb (C_22 15) (ga (C (24 + (z49_6).toNatClampNeg)) ((1 : Int32)).toNatClampNeg).toNatClampNeg))) => ?_) (fun (c_27 : ¬ ((0 : Int32) ≤ (lg_cmp ((gb (C_22 15) (ga (C (24 + (z49_6).toNatClampNeg)) ((0 : Int32)).toNatClampNeg).toNatClampNeg) + (Int32.toInt64 r_11)) (gb (C_22 15) (ga (C (24 + (z49_6).toNatClampNeg)) ((1 : Int32)).toNatClampNeg).toNatClampNeg)))) => ?_)
                    · refine lv_aload_n hx hb dX7_findFar_211 rfl (lv_at hl 5 rfl) ?_
                      refine va_get (D := D) (ci := 7) (v := .ref (a 15)) (C := RX7) (T := TX7) (N := 29) hx hb htg ig_7 hown hK hP 0 (oh_wg (Nat.lt_of_lt_of_le (by decide) hn) (sM_0 hT)) rfl 27 (by decide) (htg _ q_1000) (fun _ h9 => h9) rfl dX7_findFar_212 ?_
                      refine lv_iload hx hb dX7_findFar_215 (lv_at hl 0 rfl) ?_
                      have n_28 : vp_in (ga (C (24 + (z49_6).toNatClampNeg)) ((1 : Int32)).toNatClampNeg) 16 := (rg_in (tA_rdc (lo := 0) (hi := 15) (hT0.broad b_16) (rg_in (rg_c (v := 1) (lo := 1) (hi := 1) (by decide)) (by decide)) (show _ = 1 by decide) (by decide)) (by decide))
                      refine th_lald hx hb hK hP 15 (Nat.lt_of_lt_of_le (by decide) hn) (sM_15 hT) n_28 dX7_findFar_217 ?_
                      have n_29 : vp_in (ga (C (24 + (z49_6).toNatClampNeg)) ((1 : Int32)).toNatClampNeg) 16 := (rg_in (tA_rdc (lo := 0) (hi := 15) (hT0.broad b_16) (rg_in (rg_c (v := 1) (lo := 1) (hi := 1) (by decide)) (by decide)) (show _ = 1 by decide) (by decide)) (by decide))
                      refine th_last (T := TyM a E) (Rl := fr [(15, 16)] [] C) hx hb hK hP hD hS 15 (Nat.lt_of_lt_of_le (by decide) hn) (sM_15 hT) n_29 (hT.up 15 (by decide) rfl) (fr_st hF (by decide) (by decide)) dX7_findFar_218 (fun C_30 H locs e_31 hT hF hP hD hS => ?_)
                      have t_32 := hT
                      refine lv_iinc (v := z49_6 + 1) (lv' := [(6, .int (z49_6 + 1)), (9, .int (ga (C (24 + (z49_6).toNatClampNeg)) ((1 : Int32)).toNatClampNeg)), (8, .int (ga (C (24 + (z49_6).toNatClampNeg)) ((0 : Int32)).toNatClampNeg)), (7, .int r_11), (5, .int z39_5), (0, .ref (a 0)), (1, .int x1), (2, .int x2), (3, .int x3), (4, .int x4)]) hx hb dX7_findFar_219 hl (k := 3) rfl (by rfl) (by decide) rfl (fun ls hl => ?_)
                      refine lv_goto (tgt := 49) hx hb dX7_findFar_222 (by decide) ?_
                      exact ih_49 _ (hd_49 ▸ mu_up 24 (rn_ltu (u' := 23) (Int32.not_le.mp c_6) hz49_6 (fM_0_9 hT0) (by decide)) (by decide)) C_30 (z49_6 + 1) _ _ ls rfl (rg_w (rg_add (lo := 1) (hi := 24) (rn_ltu (u' := 23) (Int32.not_le.mp c_6) hz49_6 (fM_0_9 hT0) (by decide)) (rg_c (v := 1) (lo := 1) (hi := 1) (by decide)) (by decide)) (by decide)) (fun A hA hok hl hn => by have iz : rg z49_6 0 23 := (rg_w (lo := 0) (hi := 23) (rn_ltu (u' := 23) (Int32.not_le.mp c_6) hz49_6 (fM_0_9 hT0) (by decide)) (by decide)); have hr : z49_6 < A 5 0 0 := oh_lte (Int32.not_le.mp c_6) (hA.1 0 (by decide)); have hj : z49_6.toNatClampNeg < n0A A := n0_lt iz hr; have hK := absM_fr hA hT0 (show fr [(15, 16)] [] C K49 from (fr_tr (fr_tr (fr_tr fr_rf hLF_3 (by decide) (by decide)) hLF_39 (by decide) (by decide)) hLF_49 (by decide) (by decide))) (by decide) (by decide) (by decide); have hg := hq_8.2 A hK hok hl hr; rw [show (z49_6 + 1).toNatClampNeg = z49_6.toNatClampNeg + 1 from z_s23 iz]; have cn : cnA A x1 x2 x4 z49_6.toNatClampNeg = r_11 := (Eq.trans (pif_neg c_10) (hq_12 A hK hok hl hr).symm); have cb := cnN_b hok x2 hx1 hl hn hj; rw [cn] at cb; exact rfI_t (abA hok) (hx_49 A hA hok hl hn) hj (hg.mp (oh_b1 (rg_w (lo := 0) (hi := 1) (rn_nel (l' := 1) c_9 (oh_rgb hq_8.1) (rg_c (v := 0) (lo := 0) (hi := 0) (by decide)) (by decide)) (by decide)) c_9)) (congrArg Int32.toNatClampNeg (show ga (C (24 + (z49_6).toNatClampNeg)) ((0 : Int32)).toNatClampNeg = A 0 z49_6.toNatClampNeg 0 from colM_v (t := 0) hA (by decide) iz (by decide) hr (by unfold vis; omega))) (congrArg Int32.toNatClampNeg (show ga (C (24 + (z49_6).toNatClampNeg)) ((1 : Int32)).toNatClampNeg = A 0 z49_6.toNatClampNeg 1 from colM_v (t := 0) hA (by decide) iz (by decide) hr (by unfold vis; omega))) (x := Int32.toInt64 r_11) (by rw [oh_l32]; exact cb.1) cb.2 (Or.inr ⟨(oh_lc_nlt (Int32.not_lt.mpr c_19)), rfl⟩) (st_gb e_23) (Or.inr ⟨(oh_lc_nlt (Int32.not_lt.mpr c_27)), rfl⟩) (st_gb e_31)) (by have h7 := Int32.lt_iff_toInt_lt.mp (Int32.not_le.mp c_6); have h8 : (z49_6 + 1).toInt = z49_6.toInt + 1 := oh_incr (rn_ltu (u' := 23) (Int32.not_le.mp c_6) hz49_6 (fM_0_9 hT0) (by decide)) (by decide); omega) hT hF (fr_ste (fr_ste hLF_49 e_23 (by decide) (by decide)) e_31 (by decide) (by decide)) hP hD hS (lv_sub hl [0, 4, 5, 6, 7, 8, 9] rfl)
                    · refine lv_aload_n hx hb dX7_findFar_197 rfl (lv_at hl 5 rfl) ?_
                      refine va_get (D := D) (ci := 7) (v := .ref (a 15)) (C := RX7) (T := TX7) (N := 29) hx hb htg ig_7 hown hK hP 0 (oh_wg (Nat.lt_of_lt_of_le (by decide) hn) (sM_0 hT)) rfl 27 (by decide) (htg _ q_1000) (fun _ h9 => h9) rfl dX7_findFar_198 ?_
                      refine lv_iload hx hb dX7_findFar_201 (lv_at hl 1 rfl) ?_
                      have n_33 : vp_in (ga (C (24 + (z49_6).toNatClampNeg)) ((0 : Int32)).toNatClampNeg) 16 := (rg_in (tA_rdc (lo := 0) (hi := 15) (hT0.broad b_14) (rg_in (rg_c (v := 0) (lo := 0) (hi := 0) (by decide)) (by decide)) (show _ = 0 by decide) (by decide)) (by decide))
                      refine th_lald hx hb hK hP 15 (Nat.lt_of_lt_of_le (by decide) hn) (sM_15 hT) n_33 dX7_findFar_203 ?_
                      refine lv_iload hx hb dX7_findFar_204 (lv_at hl 2 rfl) ?_
                      refine lv_i2l (v := Int32.toInt64 r_11) hx hb dX7_findFar_206 (by rfl) ?_
                      refine lv_ladd hx hb dX7_findFar_207 ?_
                      refine lv_goto (tgt := 218) hx hb dX7_findFar_208 (by decide) ?_
                      have n_34 : vp_in (ga (C (24 + (z49_6).toNatClampNeg)) ((1 : Int32)).toNatClampNeg) 16 := (rg_in (tA_rdc (lo := 0) (hi := 15) (hT0.broad b_16) (rg_in (rg_c (v := 1) (lo := 1) (hi := 1) (by decide)) (by decide)) (show _ = 1 by decide) (by decide)) (by decide))
                      refine th_last (T := TyM a E) (Rl := fr [(15, 16)] [] C) hx hb hK hP hD hS 15 (Nat.lt_of_lt_of_le (by decide) hn) (sM_15 hT) n_34 (hT.up 15 (by decide) rfl) (fr_st hF (by decide) (by decide)) dX7_findFar_218 (fun C_35 H locs e_36 hT hF hP hD hS => ?_)
                      have t_37 := hT
                      refine lv_iinc (v := z49_6 + 1) (lv' := [(6, .int (z49_6 + 1)), (9, .int (ga (C (24 + (z49_6).toNatClampNeg)) ((1 : Int32)).toNatClampNeg)), (8, .int (ga (C (24 + (z49_6).toNatClampNeg)) ((0 : Int32)).toNatClampNeg)), (7, .int r_11), (5, .int z39_5), (0, .ref (a 0)), (1, .int x1), (2, .int x2), (3, .int x3), (4, .int x4)]) hx hb dX7_findFar_219 hl (k := 3) rfl (by rfl) (by decide) rfl (fun ls hl => ?_)
                      refine lv_goto (tgt := 49) hx hb dX7_findFar_222 (by decide) ?_
                      exact ih_49 _ (hd_49 ▸ mu_up 24 (rn_ltu (u' := 23) (Int32.not_le.mp c_6) hz49_6 (fM_0_9 hT0) (by decide)) (by decide)) C_35 (z49_6 + 1) _ _ ls rfl (rg_w (rg_add (lo := 1) (hi := 24) (rn_ltu (u' := 23) (Int32.not_le.mp c_6) hz49_6 (fM_0_9 hT0) (by decide)) (rg_c (v := 1) (lo := 1) (hi := 1) (by decide)) (by decide)) (by decide)) (fun A hA hok hl hn => by have iz : rg z49_6 0 23 := (rg_w (lo := 0) (hi := 23) (rn_ltu (u' := 23) (Int32.not_le.mp c_6) hz49_6 (fM_0_9 hT0) (by decide)) (by decide)); have hr : z49_6 < A 5 0 0 := oh_lte (Int32.not_le.mp c_6) (hA.1 0 (by decide)); have hj : z49_6.toNatClampNeg < n0A A := n0_lt iz hr; have hK := absM_fr hA hT0 (show fr [(15, 16)] [] C K49 from (fr_tr (fr_tr (fr_tr fr_rf hLF_3 (by decide) (by decide)) hLF_39 (by decide) (by decide)) hLF_49 (by decide) (by decide))) (by decide) (by decide) (by decide); have hg := hq_8.2 A hK hok hl hr; rw [show (z49_6 + 1).toNatClampNeg = z49_6.toNatClampNeg + 1 from z_s23 iz]; have cn : cnA A x1 x2 x4 z49_6.toNatClampNeg = r_11 := (Eq.trans (pif_neg c_10) (hq_12 A hK hok hl hr).symm); have cb := cnN_b hok x2 hx1 hl hn hj; rw [cn] at cb; exact rfI_t (abA hok) (hx_49 A hA hok hl hn) hj (hg.mp (oh_b1 (rg_w (lo := 0) (hi := 1) (rn_nel (l' := 1) c_9 (oh_rgb hq_8.1) (rg_c (v := 0) (lo := 0) (hi := 0) (by decide)) (by decide)) (by decide)) c_9)) (congrArg Int32.toNatClampNeg (show ga (C (24 + (z49_6).toNatClampNeg)) ((0 : Int32)).toNatClampNeg = A 0 z49_6.toNatClampNeg 0 from colM_v (t := 0) hA (by decide) iz (by decide) hr (by unfold vis; omega))) (congrArg Int32.toNatClampNeg (show ga (C (24 + (z49_6).toNatClampNeg)) ((1 : Int32)).toNatClampNeg = A 0 z49_6.toNatClampNeg 1 from colM_v (t := 0) hA (by decide) iz (by decide) hr (by unfold vis; omega))) (x := Int32.toInt64 r_11) (by rw [oh_l32]; exact cb.1) cb.2 (Or.inr ⟨(oh_lc_nlt (Int32.not_lt.mpr c_19)), rfl⟩) (st_gb e_23) (Or.inl ⟨(oh_lc_lt (Int32.not_le.mp c_27)), rfl⟩) (st_gb e_36)) (by have h7 := Int32.lt_iff_toInt_lt.mp (Int32.not_le.mp c_6); have h8 : (z49_6 + 1).toInt = z49_6.toInt + 1 := oh_incr (rn_ltu (u' := 23) (Int32.not_le.mp c_6) hz49_6 (fM_0_9 hT0) (by decide)) (by decide); omega) hT hF (fr_ste (fr_ste hLF_49 e_23 (by decide) (by decide)) e_36 (by decide) (by decide)) hP hD hS (lv_sub hl [0, 4, 5, 6, 7, 8, 9] rfl)
                  · refine lv_aload_n hx hb dX7_findFar_147 rfl (lv_at hl 5 rfl) ?_
                    refine va_get (D := D) (ci := 7) (v := .ref (a 15)) (C := RX7) (T := TX7) (N := 29) hx hb htg ig_7 hown hK hP 0 (oh_wg (Nat.lt_of_lt_of_le (by decide) hn) (sM_0 hT)) rfl 27 (by decide) (htg _ q_1000) (fun _ h9 => h9) rfl dX7_findFar_148 ?_
                    refine lv_iload hx hb dX7_findFar_151 (lv_at hl 0 rfl) ?_
                    have n_38 : vp_in (ga (C (24 + (z49_6).toNatClampNeg)) ((1 : Int32)).toNatClampNeg) 16 := (rg_in (tA_rdc (lo := 0) (hi := 15) (hT0.broad b_16) (rg_in (rg_c (v := 1) (lo := 1) (hi := 1) (by decide)) (by decide)) (show _ = 1 by decide) (by decide)) (by decide))
                    refine th_lald hx hb hK hP 15 (Nat.lt_of_lt_of_le (by decide) hn) (sM_15 hT) n_38 dX7_findFar_153 ?_
                    refine lv_iload hx hb dX7_findFar_154 (lv_at hl 2 rfl) ?_
                    refine lv_i2l (v := Int32.toInt64 r_11) hx hb dX7_findFar_156 (by rfl) ?_
                    refine lv_ladd hx hb dX7_findFar_157 ?_
                    refine lv_goto (tgt := 168) hx hb dX7_findFar_158 (by decide) ?_
                    have n_39 : vp_in (ga (C (24 + (z49_6).toNatClampNeg)) ((0 : Int32)).toNatClampNeg) 16 := (rg_in (tA_rdc (lo := 0) (hi := 15) (hT0.broad b_14) (rg_in (rg_c (v := 0) (lo := 0) (hi := 0) (by decide)) (by decide)) (show _ = 0 by decide) (by decide)) (by decide))
                    refine th_last (T := TyM a E) (Rl := fr [(15, 16)] [] C) hx hb hK hP hD hS 15 (Nat.lt_of_lt_of_le (by decide) hn) (sM_15 hT) n_39 (hT.up 15 (by decide) rfl) (fr_st hF (by decide) (by decide)) dX7_findFar_168 (fun C_40 H locs e_41 hT hF hP hD hS => ?_)
                    have t_42 := hT
                    refine lv_aload_n hx hb dX7_findFar_169 rfl (lv_at hl 5 rfl) ?_
                    refine va_get (D := D) (ci := 7) (v := .ref (a 15)) (C := RX7) (T := TX7) (N := 29) hx hb htg ig_7 hown hK hP 0 (oh_wg (Nat.lt_of_lt_of_le (by decide) hn) (sM_0 hT)) rfl 27 (by decide) (htg _ q_1000) (fun _ h9 => h9) rfl dX7_findFar_170 ?_
                    refine lv_iload hx hb dX7_findFar_173 (lv_at hl 0 rfl) ?_
                    refine lv_aload_n hx hb dX7_findFar_175 rfl (lv_at hl 5 rfl) ?_
                    refine va_get (D := D) (ci := 7) (v := .ref (a 15)) (C := RX7) (T := TX7) (N := 29) hx hb htg ig_7 hown hK hP 0 (oh_wg (Nat.lt_of_lt_of_le (by decide) hn) (sM_0 hT)) rfl 27 (by decide) (htg _ q_1000) (fun _ h9 => h9) rfl dX7_findFar_176 ?_
                    refine lv_iload hx hb dX7_findFar_179 (lv_at hl 1 rfl) ?_
                    have n_43 : vp_in (ga (C (24 + (z49_6).toNatClampNeg)) ((0 : Int32)).toNatClampNeg) 16 := (rg_in (tA_rdc (lo := 0) (hi := 15) (hT0.broad b_14) (rg_in (rg_c (v := 0) (lo := 0) (hi := 0) (by decide)) (by decide)) (show _ = 0 by decide) (by decide)) (by decide))
                    refine th_lald hx hb hK hP 15 (Nat.lt_of_lt_of_le (by decide) hn) (sM_15 hT) n_43 dX7_findFar_181 ?_
                    refine lv_iload hx hb dX7_findFar_182 (lv_at hl 2 rfl) ?_
                    refine lv_i2l (v := Int32.toInt64 r_11) hx hb dX7_findFar_184 (by rfl) ?_
                    refine lv_ladd hx hb dX7_findFar_185 ?_
                    refine lv_aload_n hx hb dX7_findFar_186 rfl (lv_at hl 5 rfl) ?_
                    refine va_get (D := D) (ci := 7) (v := .ref (a 15)) (C := RX7) (T := TX7) (N := 29) hx hb htg ig_7 hown hK hP 0 (oh_wg (Nat.lt_of_lt_of_le (by decide) hn) (sM_0 hT)) rfl 27 (by decide) (htg _ q_1000) (fun _ h9 => h9) rfl dX7_findFar_187 ?_
                    refine lv_iload hx hb dX7_findFar_190 (lv_at hl 0 rfl) ?_
                    have n_44 : vp_in (ga (C (24 + (z49_6).toNatClampNeg)) ((1 : Int32)).toNatClampNeg) 16 := (rg_in (tA_rdc (lo := 0) (hi := 15) (hT0.broad b_16) (rg_in (rg_c (v := 1) (lo := 1) (hi := 1) (by decide)) (by decide)) (show _ = 1 by decide) (by decide)) (by decide))
                    refine th_lald hx hb hK hP 15 (Nat.lt_of_lt_of_le (by decide) hn) (sM_15 hT) n_44 dX7_findFar_192 ?_
                    refine W.lcmp hx hb dX7_findFar_193 ?_
                    refine lv_if_ge (tgt := 211) hx hb dX7_findFar_194 (by decide) (fun (c_45 : (0 : Int32) ≤ (lg_cmp ((gb (C_40 15) (ga (C (24 + (z49_6).toNatClampNeg)) ((0 : Int32)).toNatClampNeg).toNatClampNeg) + (Int32.toInt64 r_11)) (gb (C_40 15) (ga (C (24 + (z49_6).toNatClampNeg)) ((1 : Int32)).toNatClampNeg).toNatClampNeg))) => ?_) (fun (c_45 : ¬ ((0 : Int32) ≤ (lg_cmp ((gb (C_40 15) (ga (C (24 + (z49_6).toNatClampNeg)) ((0 : Int32)).toNatClampNeg).toNatClampNeg) + (Int32.toInt64 r_11)) (gb (C_40 15) (ga (C (24 + (z49_6).toNatClampNeg)) ((1 : Int32)).toNatClampNeg).toNatClampNeg)))) => ?_)
                    · refine lv_aload_n hx hb dX7_findFar_211 rfl (lv_at hl 5 rfl) ?_
                      refine va_get (D := D) (ci := 7) (v := .ref (a 15)) (C := RX7) (T := TX7) (N := 29) hx hb htg ig_7 hown hK hP 0 (oh_wg (Nat.lt_of_lt_of_le (by decide) hn) (sM_0 hT)) rfl 27 (by decide) (htg _ q_1000) (fun _ h9 => h9) rfl dX7_findFar_212 ?_
                      refine lv_iload hx hb dX7_findFar_215 (lv_at hl 0 rfl) ?_
                      have n_46 : vp_in (ga (C (24 + (z49_6).toNatClampNeg)) ((1 : Int32)).toNatClampNeg) 16 := (rg_in (tA_rdc (lo := 0) (hi := 15) (hT0.broad b_16) (rg_in (rg_c (v := 1) (lo := 1) (hi := 1) (by decide)) (by decide)) (show _ = 1 by decide) (by decide)) (by decide))
                      refine th_lald hx hb hK hP 15 (Nat.lt_of_lt_of_le (by decide) hn) (sM_15 hT) n_46 dX7_findFar_217 ?_
                      have n_47 : vp_in (ga (C (24 + (z49_6).toNatClampNeg)) ((1 : Int32)).toNatClampNeg) 16 := (rg_in (tA_rdc (lo := 0) (hi := 15) (hT0.broad b_16) (rg_in (rg_c (v := 1) (lo := 1) (hi := 1) (by decide)) (by decide)) (show _ = 1 by decide) (by decide)) (by decide))
                      refine th_last (T := TyM a E) (Rl := fr [(15, 16)] [] C) hx hb hK hP hD hS 15 (Nat.lt_of_lt_of_le (by decide) hn) (sM_15 hT) n_47 (hT.up 15 (by decide) rfl) (fr_st hF (by decide) (by decide)) dX7_findFar_218 (fun C_48 H locs e_49 hT hF hP hD hS => ?_)
                      have t_50 := hT
                      refine lv_iinc (v := z49_6 + 1) (lv' := [(6, .int (z49_6 + 1)), (9, .int (ga (C (24 + (z49_6).toNatClampNeg)) ((1 : Int32)).toNatClampNeg)), (8, .int (ga (C (24 + (z49_6).toNatClampNeg)) ((0 : Int32)).toNatClampNeg)), (7, .int r_11), (5, .int z39_5), (0, .ref (a 0)), (1, .int x1), (2, .int x2), (3, .int x3), (4, .int x4)]) hx hb dX7_findFar_219 hl (k := 3) rfl (by rfl) (by decide) rfl (fun ls hl => ?_)
                      refine lv_goto (tgt := 49) hx hb dX7_findFar_222 (by decide) ?_
                      exact ih_49 _ (hd_49 ▸ mu_up 24 (rn_ltu (u' := 23) (Int32.not_le.mp c_6) hz49_6 (fM_0_9 hT0) (by decide)) (by decide)) C_48 (z49_6 + 1) _ _ ls rfl (rg_w (rg_add (lo := 1) (hi := 24) (rn_ltu (u' := 23) (Int32.not_le.mp c_6) hz49_6 (fM_0_9 hT0) (by decide)) (rg_c (v := 1) (lo := 1) (hi := 1) (by decide)) (by decide)) (by decide)) (fun A hA hok hl hn => by have iz : rg z49_6 0 23 := (rg_w (lo := 0) (hi := 23) (rn_ltu (u' := 23) (Int32.not_le.mp c_6) hz49_6 (fM_0_9 hT0) (by decide)) (by decide)); have hr : z49_6 < A 5 0 0 := oh_lte (Int32.not_le.mp c_6) (hA.1 0 (by decide)); have hj : z49_6.toNatClampNeg < n0A A := n0_lt iz hr; have hK := absM_fr hA hT0 (show fr [(15, 16)] [] C K49 from (fr_tr (fr_tr (fr_tr fr_rf hLF_3 (by decide) (by decide)) hLF_39 (by decide) (by decide)) hLF_49 (by decide) (by decide))) (by decide) (by decide) (by decide); have hg := hq_8.2 A hK hok hl hr; rw [show (z49_6 + 1).toNatClampNeg = z49_6.toNatClampNeg + 1 from z_s23 iz]; have cn : cnA A x1 x2 x4 z49_6.toNatClampNeg = r_11 := (Eq.trans (pif_neg c_10) (hq_12 A hK hok hl hr).symm); have cb := cnN_b hok x2 hx1 hl hn hj; rw [cn] at cb; exact rfI_t (abA hok) (hx_49 A hA hok hl hn) hj (hg.mp (oh_b1 (rg_w (lo := 0) (hi := 1) (rn_nel (l' := 1) c_9 (oh_rgb hq_8.1) (rg_c (v := 0) (lo := 0) (hi := 0) (by decide)) (by decide)) (by decide)) c_9)) (congrArg Int32.toNatClampNeg (show ga (C (24 + (z49_6).toNatClampNeg)) ((0 : Int32)).toNatClampNeg = A 0 z49_6.toNatClampNeg 0 from colM_v (t := 0) hA (by decide) iz (by decide) hr (by unfold vis; omega))) (congrArg Int32.toNatClampNeg (show ga (C (24 + (z49_6).toNatClampNeg)) ((1 : Int32)).toNatClampNeg = A 0 z49_6.toNatClampNeg 1 from colM_v (t := 0) hA (by decide) iz (by decide) hr (by unfold vis; omega))) (x := Int32.toInt64 r_11) (by rw [oh_l32]; exact cb.1) cb.2 (Or.inl ⟨(oh_lc_lt (Int32.not_le.mp c_19)), rfl⟩) (st_gb e_41) (Or.inr ⟨(oh_lc_nlt (Int32.not_lt.mpr c_45)), rfl⟩) (st_gb e_49)) (by have h7 := Int32.lt_iff_toInt_lt.mp (Int32.not_le.mp c_6); have h8 : (z49_6 + 1).toInt = z49_6.toInt + 1 := oh_incr (rn_ltu (u' := 23) (Int32.not_le.mp c_6) hz49_6 (fM_0_9 hT0) (by decide)) (by decide); omega) hT hF (fr_ste (fr_ste hLF_49 e_41 (by decide) (by decide)) e_49 (by decide) (by decide)) hP hD hS (lv_sub hl [0, 4, 5, 6, 7, 8, 9] rfl)
                    · refine lv_aload_n hx hb dX7_findFar_197 rfl (lv_at hl 5 rfl) ?_
                      refine va_get (D := D) (ci := 7) (v := .ref (a 15)) (C := RX7) (T := TX7) (N := 29) hx hb htg ig_7 hown hK hP 0 (oh_wg (Nat.lt_of_lt_of_le (by decide) hn) (sM_0 hT)) rfl 27 (by decide) (htg _ q_1000) (fun _ h9 => h9) rfl dX7_findFar_198 ?_
                      refine lv_iload hx hb dX7_findFar_201 (lv_at hl 1 rfl) ?_
                      have n_51 : vp_in (ga (C (24 + (z49_6).toNatClampNeg)) ((0 : Int32)).toNatClampNeg) 16 := (rg_in (tA_rdc (lo := 0) (hi := 15) (hT0.broad b_14) (rg_in (rg_c (v := 0) (lo := 0) (hi := 0) (by decide)) (by decide)) (show _ = 0 by decide) (by decide)) (by decide))
                      refine th_lald hx hb hK hP 15 (Nat.lt_of_lt_of_le (by decide) hn) (sM_15 hT) n_51 dX7_findFar_203 ?_
                      refine lv_iload hx hb dX7_findFar_204 (lv_at hl 2 rfl) ?_
                      refine lv_i2l (v := Int32.toInt64 r_11) hx hb dX7_findFar_206 (by rfl) ?_
                      refine lv_ladd hx hb dX7_findFar_207 ?_
                      refine lv_goto (tgt := 218) hx hb dX7_findFar_208 (by decide) ?_
                      have n_52 : vp_in (ga (C (24 + (z49_6).toNatClampNeg)) ((1 : Int32)).toNatClampNeg) 16 := (rg_in (tA_rdc (lo := 0) (hi := 15) (hT0.broad b_16) (rg_in (rg_c (v := 1) (lo := 1) (hi := 1) (by decide)) (by decide)) (show _ = 1 by decide) (by decide)) (by decide))
                      refine th_last (T := TyM a E) (Rl := fr [(15, 16)] [] C) hx hb hK hP hD hS 15 (Nat.lt_of_lt_of_le (by decide) hn) (sM_15 hT) n_52 (hT.up 15 (by decide) rfl) (fr_st hF (by decide) (by decide)) dX7_findFar_218 (fun C_53 H locs e_54 hT hF hP hD hS => ?_)
                      have t_55 := hT
                      refine lv_iinc (v := z49_6 + 1) (lv' := [(6, .int (z49_6 + 1)), (9, .int (ga (C (24 + (z49_6).toNatClampNeg)) ((1 : Int32)).toNatClampNeg)), (8, .int (ga (C (24 + (z49_6).toNatClampNeg)) ((0 : Int32)).toNatClampNeg)), (7, .int r_11), (5, .int z39_5), (0, .ref (a 0)), (1, .int x1), (2, .int x2), (3, .int x3), (4, .int x4)]) hx hb dX7_findFar_219 hl (k := 3) rfl (by rfl) (by decide) rfl (fun ls hl => ?_)
                      refine lv_goto (tgt := 49) hx hb dX7_findFar_222 (by decide) ?_
                      exact ih_49 _ (hd_49 ▸ mu_up 24 (rn_ltu (u' := 23) (Int32.not_le.mp c_6) hz49_6 (fM_0_9 hT0) (by decide)) (by decide)) C_53 (z49_6 + 1) _ _ ls rfl (rg_w (rg_add (lo := 1) (hi := 24) (rn_ltu (u' := 23) (Int32.not_le.mp c_6) hz49_6 (fM_0_9 hT0) (by decide)) (rg_c (v := 1) (lo := 1) (hi := 1) (by decide)) (by decide)) (by decide)) (fun A hA hok hl hn => by have iz : rg z49_6 0 23 := (rg_w (lo := 0) (hi := 23) (rn_ltu (u' := 23) (Int32.not_le.mp c_6) hz49_6 (fM_0_9 hT0) (by decide)) (by decide)); have hr : z49_6 < A 5 0 0 := oh_lte (Int32.not_le.mp c_6) (hA.1 0 (by decide)); have hj : z49_6.toNatClampNeg < n0A A := n0_lt iz hr; have hK := absM_fr hA hT0 (show fr [(15, 16)] [] C K49 from (fr_tr (fr_tr (fr_tr fr_rf hLF_3 (by decide) (by decide)) hLF_39 (by decide) (by decide)) hLF_49 (by decide) (by decide))) (by decide) (by decide) (by decide); have hg := hq_8.2 A hK hok hl hr; rw [show (z49_6 + 1).toNatClampNeg = z49_6.toNatClampNeg + 1 from z_s23 iz]; have cn : cnA A x1 x2 x4 z49_6.toNatClampNeg = r_11 := (Eq.trans (pif_neg c_10) (hq_12 A hK hok hl hr).symm); have cb := cnN_b hok x2 hx1 hl hn hj; rw [cn] at cb; exact rfI_t (abA hok) (hx_49 A hA hok hl hn) hj (hg.mp (oh_b1 (rg_w (lo := 0) (hi := 1) (rn_nel (l' := 1) c_9 (oh_rgb hq_8.1) (rg_c (v := 0) (lo := 0) (hi := 0) (by decide)) (by decide)) (by decide)) c_9)) (congrArg Int32.toNatClampNeg (show ga (C (24 + (z49_6).toNatClampNeg)) ((0 : Int32)).toNatClampNeg = A 0 z49_6.toNatClampNeg 0 from colM_v (t := 0) hA (by decide) iz (by decide) hr (by unfold vis; omega))) (congrArg Int32.toNatClampNeg (show ga (C (24 + (z49_6).toNatClampNeg)) ((1 : Int32)).toNatClampNeg = A 0 z49_6.toNatClampNeg 1 from colM_v (t := 0) hA (by decide) iz (by decide) hr (by unfold vis; omega))) (x := Int32.toInt64 r_11) (by rw [oh_l32]; exact cb.1) cb.2 (Or.inl ⟨(oh_lc_lt (Int32.not_le.mp c_19)), rfl⟩) (st_gb e_41) (Or.inl ⟨(oh_lc_lt (Int32.not_le.mp c_45)), rfl⟩) (st_gb e_54)) (by have h7 := Int32.lt_iff_toInt_lt.mp (Int32.not_le.mp c_6); have h8 : (z49_6 + 1).toInt = z49_6.toInt + 1 := oh_incr (rn_ltu (u' := 23) (Int32.not_le.mp c_6) hz49_6 (fM_0_9 hT0) (by decide)) (by decide); omega) hT hF (fr_ste (fr_ste hLF_49 e_41 (by decide) (by decide)) e_54 (by decide) (by decide)) hP hD hS (lv_sub hl [0, 4, 5, 6, 7, 8, 9] rfl)
                · refine lv_aload_n hx hb dX7_findFar_74 rfl (lv_at hl 2 rfl) ?_
                  refine lv_iload_n hx hb dX7_findFar_75 rfl (lv_at hl 3 rfl) ?_
                  refine lv_iload_n hx hb dX7_findFar_76 rfl (lv_at hl 4 rfl) ?_
                  refine lv_iload hx hb dX7_findFar_77 (lv_at hl 0 rfl) ?_
                  refine tq_V (As := [.int x1, .int x2, .int z49_6]) (rest := []) (ws := (oh_W n a K49)) ⟨hx, hb, hml, hown, htg⟩ (e_X7_daysOf l D E G a K49 n hn hT x1 x2 z49_6 (rg_w hx1 (by decide)) (rg_w (rn_ltu (u' := 23) (Int32.not_le.mp c_6) hz49_6 (fM_0_9 hT0) (by decide)) (by decide)) (oh_posU (rg_w hx1 (by decide)) (fun i hi => hLF_49.1 _ (inR_out hi (by decide)) (by omega)) (oh_posU (rg_w hx1 (by decide)) (fun i hi => hLF_39.1 _ (inR_out hi (by decide)) (by omega)) (oh_posU (rg_w hx1 (by decide)) (fun i hi => hLF_3.1 _ (inR_out hi (by decide)) (by omega)) hw)))) (cwV 3 htg (oh_gV q_1334 q_1336 q_58 q_73 q_1337) rfl rfl rfl pdVX7_daysOf ⟨Nat.le_of_ble_eq_true rfl, Nat.le_of_ble_eq_true rfl⟩) hK hP hG hS (va_recv hK hP (ci := 7) (q0 := 0) rfl (oh_wg (Nat.lt_of_lt_of_le (by decide) hn) (sM_0 hT))) rfl hl.1 rfl (Nat.le_of_ble_eq_true rfl) dX7_findFar_79 ⟨Nat.le_of_ble_eq_true rfl, Nat.le_of_ble_eq_true rfl⟩ (fun r_56 hq_57 => ?_)
                  refine lv_goto (tgt := 95) hx hb dX7_findFar_82 (by decide) ?_
                  refine lv_istore (lv' := [(7, .int r_56), (6, .int z49_6), (5, .int z39_5), (0, .ref (a 0)), (1, .int x1), (2, .int x2), (3, .int x3), (4, .int x4)]) hx hb dX7_findFar_95 hl (by decide) rfl (fun ls hl => ?_)
                  refine lv_aload_n hx hb dX7_findFar_97 rfl (lv_at hl 3 rfl) ?_
                  refine va_get (D := D) (ci := 7) (v := .ref (a 9)) (C := RX7) (T := TX7) (N := 29) hx hb htg ig_7 hown hK hP 0 (oh_wg (Nat.lt_of_lt_of_le (by decide) hn) (sM_0 hT)) rfl 10 (by decide) (htg _ q_983) (fun _ h9 => h9) rfl dX7_findFar_98 ?_
                  refine lv_iload hx hb dX7_findFar_101 (lv_at hl 1 rfl) ?_
                  have n_58 : vp_in z49_6 24 := (rg_in (rn_ltu (u' := 23) (Int32.not_le.mp c_6) hz49_6 (fM_0_9 hT0) (by decide)) (by decide))
                  have b_59 : (z49_6).toNatClampNeg < 24 := vp_lt n_58
                  refine th_aald hx hb hK hP 9 2 (Nat.lt_of_lt_of_le (by decide) hn) (sM_9 hT) rfl n_58 dX7_findFar_103 ?_
                  refine lv_iconst (v := 0) hx hb dX7_findFar_104 (by decide) ?_
                  refine th_iald hx hb hK hP (24 + (z49_6).toNatClampNeg) (lt_blk b_59 hn (by decide)) (Eq.trans (Eq.trans (hLF_49.1 (24 + (z49_6).toNatClampNeg) (by have h9 := b_59; exact inR_out h9 (by decide)) (by omega)) (Eq.trans (hLF_39.1 (24 + (z49_6).toNatClampNeg) (by have h9 := b_59; exact inR_out h9 (by decide)) (by omega)) (hLF_3.1 (24 + (z49_6).toNatClampNeg) (by have h9 := b_59; exact inR_out h9 (by decide)) (by omega)))) (hT0.broad b_59).1) (rg_in (rg_c (v := 0) (lo := 0) (hi := 0) (by decide)) (by decide)) dX7_findFar_105 ?_
                  refine lv_istore (lv' := [(8, .int (ga (C (24 + (z49_6).toNatClampNeg)) ((0 : Int32)).toNatClampNeg)), (7, .int r_56), (6, .int z49_6), (5, .int z39_5), (0, .ref (a 0)), (1, .int x1), (2, .int x2), (3, .int x3), (4, .int x4)]) hx hb dX7_findFar_106 hl (by decide) rfl (fun ls hl => ?_)
                  refine lv_aload_n hx hb dX7_findFar_108 rfl (lv_at hl 4 rfl) ?_
                  refine va_get (D := D) (ci := 7) (v := .ref (a 9)) (C := RX7) (T := TX7) (N := 29) hx hb htg ig_7 hown hK hP 0 (oh_wg (Nat.lt_of_lt_of_le (by decide) hn) (sM_0 hT)) rfl 10 (by decide) (htg _ q_983) (fun _ h9 => h9) rfl dX7_findFar_109 ?_
                  refine lv_iload hx hb dX7_findFar_112 (lv_at hl 2 rfl) ?_
                  have n_60 : vp_in z49_6 24 := (rg_in (rn_ltu (u' := 23) (Int32.not_le.mp c_6) hz49_6 (fM_0_9 hT0) (by decide)) (by decide))
                  have b_61 : (z49_6).toNatClampNeg < 24 := vp_lt n_60
                  refine th_aald hx hb hK hP 9 2 (Nat.lt_of_lt_of_le (by decide) hn) (sM_9 hT) rfl n_60 dX7_findFar_114 ?_
                  refine lv_iconst (v := 1) hx hb dX7_findFar_115 (by decide) ?_
                  refine th_iald hx hb hK hP (24 + (z49_6).toNatClampNeg) (lt_blk b_61 hn (by decide)) (Eq.trans (Eq.trans (hLF_49.1 (24 + (z49_6).toNatClampNeg) (by have h9 := b_61; exact inR_out h9 (by decide)) (by omega)) (Eq.trans (hLF_39.1 (24 + (z49_6).toNatClampNeg) (by have h9 := b_61; exact inR_out h9 (by decide)) (by omega)) (hLF_3.1 (24 + (z49_6).toNatClampNeg) (by have h9 := b_61; exact inR_out h9 (by decide)) (by omega)))) (hT0.broad b_61).1) (rg_in (rg_c (v := 1) (lo := 1) (hi := 1) (by decide)) (by decide)) dX7_findFar_116 ?_
                  refine lv_istore (lv' := [(9, .int (ga (C (24 + (z49_6).toNatClampNeg)) ((1 : Int32)).toNatClampNeg)), (8, .int (ga (C (24 + (z49_6).toNatClampNeg)) ((0 : Int32)).toNatClampNeg)), (7, .int r_56), (6, .int z49_6), (5, .int z39_5), (0, .ref (a 0)), (1, .int x1), (2, .int x2), (3, .int x3), (4, .int x4)]) hx hb dX7_findFar_117 hl (by decide) rfl (fun ls hl => ?_)
                  refine lv_aload_n hx hb dX7_findFar_119 rfl (lv_at hl 5 rfl) ?_
                  refine va_get (D := D) (ci := 7) (v := .ref (a 15)) (C := RX7) (T := TX7) (N := 29) hx hb htg ig_7 hown hK hP 0 (oh_wg (Nat.lt_of_lt_of_le (by decide) hn) (sM_0 hT)) rfl 27 (by decide) (htg _ q_1000) (fun _ h9 => h9) rfl dX7_findFar_120 ?_
                  refine lv_iload hx hb dX7_findFar_123 (lv_at hl 1 rfl) ?_
                  refine lv_aload_n hx hb dX7_findFar_125 rfl (lv_at hl 5 rfl) ?_
                  refine va_get (D := D) (ci := 7) (v := .ref (a 15)) (C := RX7) (T := TX7) (N := 29) hx hb htg ig_7 hown hK hP 0 (oh_wg (Nat.lt_of_lt_of_le (by decide) hn) (sM_0 hT)) rfl 27 (by decide) (htg _ q_1000) (fun _ h9 => h9) rfl dX7_findFar_126 ?_
                  refine lv_iload hx hb dX7_findFar_129 (lv_at hl 0 rfl) ?_
                  have n_62 : vp_in (ga (C (24 + (z49_6).toNatClampNeg)) ((1 : Int32)).toNatClampNeg) 16 := (rg_in (tA_rdc (lo := 0) (hi := 15) (hT0.broad b_61) (rg_in (rg_c (v := 1) (lo := 1) (hi := 1) (by decide)) (by decide)) (show _ = 1 by decide) (by decide)) (by decide))
                  refine th_lald hx hb hK hP 15 (Nat.lt_of_lt_of_le (by decide) hn) (sM_15 hT) n_62 dX7_findFar_131 ?_
                  refine lv_iload hx hb dX7_findFar_132 (lv_at hl 2 rfl) ?_
                  refine lv_i2l (v := Int32.toInt64 r_56) hx hb dX7_findFar_134 (by rfl) ?_
                  refine lv_ladd hx hb dX7_findFar_135 ?_
                  refine lv_aload_n hx hb dX7_findFar_136 rfl (lv_at hl 5 rfl) ?_
                  refine va_get (D := D) (ci := 7) (v := .ref (a 15)) (C := RX7) (T := TX7) (N := 29) hx hb htg ig_7 hown hK hP 0 (oh_wg (Nat.lt_of_lt_of_le (by decide) hn) (sM_0 hT)) rfl 27 (by decide) (htg _ q_1000) (fun _ h9 => h9) rfl dX7_findFar_137 ?_
                  refine lv_iload hx hb dX7_findFar_140 (lv_at hl 1 rfl) ?_
                  have n_63 : vp_in (ga (C (24 + (z49_6).toNatClampNeg)) ((0 : Int32)).toNatClampNeg) 16 := (rg_in (tA_rdc (lo := 0) (hi := 15) (hT0.broad b_59) (rg_in (rg_c (v := 0) (lo := 0) (hi := 0) (by decide)) (by decide)) (show _ = 0 by decide) (by decide)) (by decide))
                  refine th_lald hx hb hK hP 15 (Nat.lt_of_lt_of_le (by decide) hn) (sM_15 hT) n_63 dX7_findFar_142 ?_
                  refine W.lcmp hx hb dX7_findFar_143 ?_
                  refine lv_if_ge (tgt := 161) hx hb dX7_findFar_144 (by decide) (fun (c_64 : (0 : Int32) ≤ (lg_cmp ((gb (K49 15) (ga (C (24 + (z49_6).toNatClampNeg)) ((1 : Int32)).toNatClampNeg).toNatClampNeg) + (Int32.toInt64 r_56)) (gb (K49 15) (ga (C (24 + (z49_6).toNatClampNeg)) ((0 : Int32)).toNatClampNeg).toNatClampNeg))) => ?_) (fun (c_64 : ¬ ((0 : Int32) ≤ (lg_cmp ((gb (K49 15) (ga (C (24 + (z49_6).toNatClampNeg)) ((1 : Int32)).toNatClampNeg).toNatClampNeg) + (Int32.toInt64 r_56)) (gb (K49 15) (ga (C (24 + (z49_6).toNatClampNeg)) ((0 : Int32)).toNatClampNeg).toNatClampNeg)))) => ?_)
                  · refine lv_aload_n hx hb dX7_findFar_161 rfl (lv_at hl 5 rfl) ?_
                    refine va_get (D := D) (ci := 7) (v := .ref (a 15)) (C := RX7) (T := TX7) (N := 29) hx hb htg ig_7 hown hK hP 0 (oh_wg (Nat.lt_of_lt_of_le (by decide) hn) (sM_0 hT)) rfl 27 (by decide) (htg _ q_1000) (fun _ h9 => h9) rfl dX7_findFar_162 ?_
                    refine lv_iload hx hb dX7_findFar_165 (lv_at hl 1 rfl) ?_
                    have n_65 : vp_in (ga (C (24 + (z49_6).toNatClampNeg)) ((0 : Int32)).toNatClampNeg) 16 := (rg_in (tA_rdc (lo := 0) (hi := 15) (hT0.broad b_59) (rg_in (rg_c (v := 0) (lo := 0) (hi := 0) (by decide)) (by decide)) (show _ = 0 by decide) (by decide)) (by decide))
                    refine th_lald hx hb hK hP 15 (Nat.lt_of_lt_of_le (by decide) hn) (sM_15 hT) n_65 dX7_findFar_167 ?_
                    have n_66 : vp_in (ga (C (24 + (z49_6).toNatClampNeg)) ((0 : Int32)).toNatClampNeg) 16 := (rg_in (tA_rdc (lo := 0) (hi := 15) (hT0.broad b_59) (rg_in (rg_c (v := 0) (lo := 0) (hi := 0) (by decide)) (by decide)) (show _ = 0 by decide) (by decide)) (by decide))
                    refine th_last (T := TyM a E) (Rl := fr [(15, 16)] [] C) hx hb hK hP hD hS 15 (Nat.lt_of_lt_of_le (by decide) hn) (sM_15 hT) n_66 (hT.up 15 (by decide) rfl) (fr_st hF (by decide) (by decide)) dX7_findFar_168 (fun C_67 H locs e_68 hT hF hP hD hS => ?_)
                    have t_69 := hT
                    refine lv_aload_n hx hb dX7_findFar_169 rfl (lv_at hl 5 rfl) ?_
                    refine va_get (D := D) (ci := 7) (v := .ref (a 15)) (C := RX7) (T := TX7) (N := 29) hx hb htg ig_7 hown hK hP 0 (oh_wg (Nat.lt_of_lt_of_le (by decide) hn) (sM_0 hT)) rfl 27 (by decide) (htg _ q_1000) (fun _ h9 => h9) rfl dX7_findFar_170 ?_
                    refine lv_iload hx hb dX7_findFar_173 (lv_at hl 0 rfl) ?_
                    refine lv_aload_n hx hb dX7_findFar_175 rfl (lv_at hl 5 rfl) ?_
                    refine va_get (D := D) (ci := 7) (v := .ref (a 15)) (C := RX7) (T := TX7) (N := 29) hx hb htg ig_7 hown hK hP 0 (oh_wg (Nat.lt_of_lt_of_le (by decide) hn) (sM_0 hT)) rfl 27 (by decide) (htg _ q_1000) (fun _ h9 => h9) rfl dX7_findFar_176 ?_
                    refine lv_iload hx hb dX7_findFar_179 (lv_at hl 1 rfl) ?_
                    have n_70 : vp_in (ga (C (24 + (z49_6).toNatClampNeg)) ((0 : Int32)).toNatClampNeg) 16 := (rg_in (tA_rdc (lo := 0) (hi := 15) (hT0.broad b_59) (rg_in (rg_c (v := 0) (lo := 0) (hi := 0) (by decide)) (by decide)) (show _ = 0 by decide) (by decide)) (by decide))
                    refine th_lald hx hb hK hP 15 (Nat.lt_of_lt_of_le (by decide) hn) (sM_15 hT) n_70 dX7_findFar_181 ?_
                    refine lv_iload hx hb dX7_findFar_182 (lv_at hl 2 rfl) ?_
                    refine lv_i2l (v := Int32.toInt64 r_56) hx hb dX7_findFar_184 (by rfl) ?_
                    refine lv_ladd hx hb dX7_findFar_185 ?_
                    refine lv_aload_n hx hb dX7_findFar_186 rfl (lv_at hl 5 rfl) ?_
                    refine va_get (D := D) (ci := 7) (v := .ref (a 15)) (C := RX7) (T := TX7) (N := 29) hx hb htg ig_7 hown hK hP 0 (oh_wg (Nat.lt_of_lt_of_le (by decide) hn) (sM_0 hT)) rfl 27 (by decide) (htg _ q_1000) (fun _ h9 => h9) rfl dX7_findFar_187 ?_
                    refine lv_iload hx hb dX7_findFar_190 (lv_at hl 0 rfl) ?_
                    have n_71 : vp_in (ga (C (24 + (z49_6).toNatClampNeg)) ((1 : Int32)).toNatClampNeg) 16 := (rg_in (tA_rdc (lo := 0) (hi := 15) (hT0.broad b_61) (rg_in (rg_c (v := 1) (lo := 1) (hi := 1) (by decide)) (by decide)) (show _ = 1 by decide) (by decide)) (by decide))
                    refine th_lald hx hb hK hP 15 (Nat.lt_of_lt_of_le (by decide) hn) (sM_15 hT) n_71 dX7_findFar_192 ?_
                    refine W.lcmp hx hb dX7_findFar_193 ?_
                    refine lv_if_ge (tgt := 211) hx hb dX7_findFar_194 (by decide) (fun (c_72 : (0 : Int32) ≤ (lg_cmp ((gb (C_67 15) (ga (C (24 + (z49_6).toNatClampNeg)) ((0 : Int32)).toNatClampNeg).toNatClampNeg) + (Int32.toInt64 r_56)) (gb (C_67 15) (ga (C (24 + (z49_6).toNatClampNeg)) ((1 : Int32)).toNatClampNeg).toNatClampNeg))) => ?_) (fun (c_72 : ¬ ((0 : Int32) ≤ (lg_cmp ((gb (C_67 15) (ga (C (24 + (z49_6).toNatClampNeg)) ((0 : Int32)).toNatClampNeg).toNatClampNeg) + (Int32.toInt64 r_56)) (gb (C_67 15) (ga (C (24 + (z49_6).toNatClampNeg)) ((1 : Int32)).toNatClampNeg).toNatClampNeg)))) => ?_)
                    · refine lv_aload_n hx hb dX7_findFar_211 rfl (lv_at hl 5 rfl) ?_
                      refine va_get (D := D) (ci := 7) (v := .ref (a 15)) (C := RX7) (T := TX7) (N := 29) hx hb htg ig_7 hown hK hP 0 (oh_wg (Nat.lt_of_lt_of_le (by decide) hn) (sM_0 hT)) rfl 27 (by decide) (htg _ q_1000) (fun _ h9 => h9) rfl dX7_findFar_212 ?_
                      refine lv_iload hx hb dX7_findFar_215 (lv_at hl 0 rfl) ?_
                      have n_73 : vp_in (ga (C (24 + (z49_6).toNatClampNeg)) ((1 : Int32)).toNatClampNeg) 16 := (rg_in (tA_rdc (lo := 0) (hi := 15) (hT0.broad b_61) (rg_in (rg_c (v := 1) (lo := 1) (hi := 1) (by decide)) (by decide)) (show _ = 1 by decide) (by decide)) (by decide))
                      refine th_lald hx hb hK hP 15 (Nat.lt_of_lt_of_le (by decide) hn) (sM_15 hT) n_73 dX7_findFar_217 ?_
                      have n_74 : vp_in (ga (C (24 + (z49_6).toNatClampNeg)) ((1 : Int32)).toNatClampNeg) 16 := (rg_in (tA_rdc (lo := 0) (hi := 15) (hT0.broad b_61) (rg_in (rg_c (v := 1) (lo := 1) (hi := 1) (by decide)) (by decide)) (show _ = 1 by decide) (by decide)) (by decide))
                      refine th_last (T := TyM a E) (Rl := fr [(15, 16)] [] C) hx hb hK hP hD hS 15 (Nat.lt_of_lt_of_le (by decide) hn) (sM_15 hT) n_74 (hT.up 15 (by decide) rfl) (fr_st hF (by decide) (by decide)) dX7_findFar_218 (fun C_75 H locs e_76 hT hF hP hD hS => ?_)
                      have t_77 := hT
                      refine lv_iinc (v := z49_6 + 1) (lv' := [(6, .int (z49_6 + 1)), (9, .int (ga (C (24 + (z49_6).toNatClampNeg)) ((1 : Int32)).toNatClampNeg)), (8, .int (ga (C (24 + (z49_6).toNatClampNeg)) ((0 : Int32)).toNatClampNeg)), (7, .int r_56), (5, .int z39_5), (0, .ref (a 0)), (1, .int x1), (2, .int x2), (3, .int x3), (4, .int x4)]) hx hb dX7_findFar_219 hl (k := 3) rfl (by rfl) (by decide) rfl (fun ls hl => ?_)
                      refine lv_goto (tgt := 49) hx hb dX7_findFar_222 (by decide) ?_
                      exact ih_49 _ (hd_49 ▸ mu_up 24 (rn_ltu (u' := 23) (Int32.not_le.mp c_6) hz49_6 (fM_0_9 hT0) (by decide)) (by decide)) C_75 (z49_6 + 1) _ _ ls rfl (rg_w (rg_add (lo := 1) (hi := 24) (rn_ltu (u' := 23) (Int32.not_le.mp c_6) hz49_6 (fM_0_9 hT0) (by decide)) (rg_c (v := 1) (lo := 1) (hi := 1) (by decide)) (by decide)) (by decide)) (fun A hA hok hl hn => by have iz : rg z49_6 0 23 := (rg_w (lo := 0) (hi := 23) (rn_ltu (u' := 23) (Int32.not_le.mp c_6) hz49_6 (fM_0_9 hT0) (by decide)) (by decide)); have hr : z49_6 < A 5 0 0 := oh_lte (Int32.not_le.mp c_6) (hA.1 0 (by decide)); have hj : z49_6.toNatClampNeg < n0A A := n0_lt iz hr; have hK := absM_fr hA hT0 (show fr [(15, 16)] [] C K49 from (fr_tr (fr_tr (fr_tr fr_rf hLF_3 (by decide) (by decide)) hLF_39 (by decide) (by decide)) hLF_49 (by decide) (by decide))) (by decide) (by decide) (by decide); have hg := hq_8.2 A hK hok hl hr; rw [show (z49_6 + 1).toNatClampNeg = z49_6.toNatClampNeg + 1 from z_s23 iz]; have cn : cnA A x1 x2 x4 z49_6.toNatClampNeg = r_56 := (Eq.trans (pif_pos c_10) (hq_57 A hK hok hl hr).symm); have cb := cnN_b hok x2 hx1 hl hn hj; rw [cn] at cb; exact rfI_t (abA hok) (hx_49 A hA hok hl hn) hj (hg.mp (oh_b1 (rg_w (lo := 0) (hi := 1) (rn_nel (l' := 1) c_9 (oh_rgb hq_8.1) (rg_c (v := 0) (lo := 0) (hi := 0) (by decide)) (by decide)) (by decide)) c_9)) (congrArg Int32.toNatClampNeg (show ga (C (24 + (z49_6).toNatClampNeg)) ((0 : Int32)).toNatClampNeg = A 0 z49_6.toNatClampNeg 0 from colM_v (t := 0) hA (by decide) iz (by decide) hr (by unfold vis; omega))) (congrArg Int32.toNatClampNeg (show ga (C (24 + (z49_6).toNatClampNeg)) ((1 : Int32)).toNatClampNeg = A 0 z49_6.toNatClampNeg 1 from colM_v (t := 0) hA (by decide) iz (by decide) hr (by unfold vis; omega))) (x := Int32.toInt64 r_56) (by rw [oh_l32]; exact cb.1) cb.2 (Or.inr ⟨(oh_lc_nlt (Int32.not_lt.mpr c_64)), rfl⟩) (st_gb e_68) (Or.inr ⟨(oh_lc_nlt (Int32.not_lt.mpr c_72)), rfl⟩) (st_gb e_76)) (by have h7 := Int32.lt_iff_toInt_lt.mp (Int32.not_le.mp c_6); have h8 : (z49_6 + 1).toInt = z49_6.toInt + 1 := oh_incr (rn_ltu (u' := 23) (Int32.not_le.mp c_6) hz49_6 (fM_0_9 hT0) (by decide)) (by decide); omega) hT hF (fr_ste (fr_ste hLF_49 e_68 (by decide) (by decide)) e_76 (by decide) (by decide)) hP hD hS (lv_sub hl [0, 4, 5, 6, 7, 8, 9] rfl)
                    · refine lv_aload_n hx hb dX7_findFar_197 rfl (lv_at hl 5 rfl) ?_
                      refine va_get (D := D) (ci := 7) (v := .ref (a 15)) (C := RX7) (T := TX7) (N := 29) hx hb htg ig_7 hown hK hP 0 (oh_wg (Nat.lt_of_lt_of_le (by decide) hn) (sM_0 hT)) rfl 27 (by decide) (htg _ q_1000) (fun _ h9 => h9) rfl dX7_findFar_198 ?_
                      refine lv_iload hx hb dX7_findFar_201 (lv_at hl 1 rfl) ?_
                      have n_78 : vp_in (ga (C (24 + (z49_6).toNatClampNeg)) ((0 : Int32)).toNatClampNeg) 16 := (rg_in (tA_rdc (lo := 0) (hi := 15) (hT0.broad b_59) (rg_in (rg_c (v := 0) (lo := 0) (hi := 0) (by decide)) (by decide)) (show _ = 0 by decide) (by decide)) (by decide))
                      refine th_lald hx hb hK hP 15 (Nat.lt_of_lt_of_le (by decide) hn) (sM_15 hT) n_78 dX7_findFar_203 ?_
                      refine lv_iload hx hb dX7_findFar_204 (lv_at hl 2 rfl) ?_
                      refine lv_i2l (v := Int32.toInt64 r_56) hx hb dX7_findFar_206 (by rfl) ?_
                      refine lv_ladd hx hb dX7_findFar_207 ?_
                      refine lv_goto (tgt := 218) hx hb dX7_findFar_208 (by decide) ?_
                      have n_79 : vp_in (ga (C (24 + (z49_6).toNatClampNeg)) ((1 : Int32)).toNatClampNeg) 16 := (rg_in (tA_rdc (lo := 0) (hi := 15) (hT0.broad b_61) (rg_in (rg_c (v := 1) (lo := 1) (hi := 1) (by decide)) (by decide)) (show _ = 1 by decide) (by decide)) (by decide))
                      refine th_last (T := TyM a E) (Rl := fr [(15, 16)] [] C) hx hb hK hP hD hS 15 (Nat.lt_of_lt_of_le (by decide) hn) (sM_15 hT) n_79 (hT.up 15 (by decide) rfl) (fr_st hF (by decide) (by decide)) dX7_findFar_218 (fun C_80 H locs e_81 hT hF hP hD hS => ?_)
                      have t_82 := hT
                      refine lv_iinc (v := z49_6 + 1) (lv' := [(6, .int (z49_6 + 1)), (9, .int (ga (C (24 + (z49_6).toNatClampNeg)) ((1 : Int32)).toNatClampNeg)), (8, .int (ga (C (24 + (z49_6).toNatClampNeg)) ((0 : Int32)).toNatClampNeg)), (7, .int r_56), (5, .int z39_5), (0, .ref (a 0)), (1, .int x1), (2, .int x2), (3, .int x3), (4, .int x4)]) hx hb dX7_findFar_219 hl (k := 3) rfl (by rfl) (by decide) rfl (fun ls hl => ?_)
                      refine lv_goto (tgt := 49) hx hb dX7_findFar_222 (by decide) ?_
                      exact ih_49 _ (hd_49 ▸ mu_up 24 (rn_ltu (u' := 23) (Int32.not_le.mp c_6) hz49_6 (fM_0_9 hT0) (by decide)) (by decide)) C_80 (z49_6 + 1) _ _ ls rfl (rg_w (rg_add (lo := 1) (hi := 24) (rn_ltu (u' := 23) (Int32.not_le.mp c_6) hz49_6 (fM_0_9 hT0) (by decide)) (rg_c (v := 1) (lo := 1) (hi := 1) (by decide)) (by decide)) (by decide)) (fun A hA hok hl hn => by have iz : rg z49_6 0 23 := (rg_w (lo := 0) (hi := 23) (rn_ltu (u' := 23) (Int32.not_le.mp c_6) hz49_6 (fM_0_9 hT0) (by decide)) (by decide)); have hr : z49_6 < A 5 0 0 := oh_lte (Int32.not_le.mp c_6) (hA.1 0 (by decide)); have hj : z49_6.toNatClampNeg < n0A A := n0_lt iz hr; have hK := absM_fr hA hT0 (show fr [(15, 16)] [] C K49 from (fr_tr (fr_tr (fr_tr fr_rf hLF_3 (by decide) (by decide)) hLF_39 (by decide) (by decide)) hLF_49 (by decide) (by decide))) (by decide) (by decide) (by decide); have hg := hq_8.2 A hK hok hl hr; rw [show (z49_6 + 1).toNatClampNeg = z49_6.toNatClampNeg + 1 from z_s23 iz]; have cn : cnA A x1 x2 x4 z49_6.toNatClampNeg = r_56 := (Eq.trans (pif_pos c_10) (hq_57 A hK hok hl hr).symm); have cb := cnN_b hok x2 hx1 hl hn hj; rw [cn] at cb; exact rfI_t (abA hok) (hx_49 A hA hok hl hn) hj (hg.mp (oh_b1 (rg_w (lo := 0) (hi := 1) (rn_nel (l' := 1) c_9 (oh_rgb hq_8.1) (rg_c (v := 0) (lo := 0) (hi := 0) (by decide)) (by decide)) (by decide)) c_9)) (congrArg Int32.toNatClampNeg (show ga (C (24 + (z49_6).toNatClampNeg)) ((0 : Int32)).toNatClampNeg = A 0 z49_6.toNatClampNeg 0 from colM_v (t := 0) hA (by decide) iz (by decide) hr (by unfold vis; omega))) (congrArg Int32.toNatClampNeg (show ga (C (24 + (z49_6).toNatClampNeg)) ((1 : Int32)).toNatClampNeg = A 0 z49_6.toNatClampNeg 1 from colM_v (t := 0) hA (by decide) iz (by decide) hr (by unfold vis; omega))) (x := Int32.toInt64 r_56) (by rw [oh_l32]; exact cb.1) cb.2 (Or.inr ⟨(oh_lc_nlt (Int32.not_lt.mpr c_64)), rfl⟩) (st_gb e_68) (Or.inl ⟨(oh_lc_lt (Int32.not_le.mp c_72)), rfl⟩) (st_gb e_81)) (by have h7 := Int32.lt_iff_toInt_lt.mp (Int32.not_le.mp c_6); have h8 : (z49_6 + 1).toInt = z49_6.toInt + 1 := oh_incr (rn_ltu (u' := 23) (Int32.not_le.mp c_6) hz49_6 (fM_0_9 hT0) (by decide)) (by decide); omega) hT hF (fr_ste (fr_ste hLF_49 e_68 (by decide) (by decide)) e_81 (by decide) (by decide)) hP hD hS (lv_sub hl [0, 4, 5, 6, 7, 8, 9] rfl)
                  · refine lv_aload_n hx hb dX7_findFar_147 rfl (lv_at hl 5 rfl) ?_
                    refine va_get (D := D) (ci := 7) (v := .ref (a 15)) (C := RX7) (T := TX7) (N := 29) hx hb htg ig_7 hown hK hP 0 (oh_wg (Nat.lt_of_lt_of_le (by decide) hn) (sM_0 hT)) rfl 27 (by decide) (htg _ q_1000) (fun _ h9 => h9) rfl dX7_findFar_148 ?_
                    refine lv_iload hx hb dX7_findFar_151 (lv_at hl 0 rfl) ?_
                    have n_83 : vp_in (ga (C (24 + (z49_6).toNatClampNeg)) ((1 : Int32)).toNatClampNeg) 16 := (rg_in (tA_rdc (lo := 0) (hi := 15) (hT0.broad b_61) (rg_in (rg_c (v := 1) (lo := 1) (hi := 1) (by decide)) (by decide)) (show _ = 1 by decide) (by decide)) (by decide))
                    refine th_lald hx hb hK hP 15 (Nat.lt_of_lt_of_le (by decide) hn) (sM_15 hT) n_83 dX7_findFar_153 ?_
                    refine lv_iload hx hb dX7_findFar_154 (lv_at hl 2 rfl) ?_
                    refine lv_i2l (v := Int32.toInt64 r_56) hx hb dX7_findFar_156 (by rfl) ?_
                    refine lv_ladd hx hb dX7_findFar_157 ?_
                    refine lv_goto (tgt := 168) hx hb dX7_findFar_158 (by decide) ?_
                    have n_84 : vp_in (ga (C (24 + (z49_6).toNatClampNeg)) ((0 : Int32)).toNatClampNeg) 16 := (rg_in (tA_rdc (lo := 0) (hi := 15) (hT0.broad b_59) (rg_in (rg_c (v := 0) (lo := 0) (hi := 0) (by decide)) (by decide)) (show _ = 0 by decide) (by decide)) (by decide))
                    refine th_last (T := TyM a E) (Rl := fr [(15, 16)] [] C) hx hb hK hP hD hS 15 (Nat.lt_of_lt_of_le (by decide) hn) (sM_15 hT) n_84 (hT.up 15 (by decide) rfl) (fr_st hF (by decide) (by decide)) dX7_findFar_168 (fun C_85 H locs e_86 hT hF hP hD hS => ?_)
                    have t_87 := hT
                    refine lv_aload_n hx hb dX7_findFar_169 rfl (lv_at hl 5 rfl) ?_
                    refine va_get (D := D) (ci := 7) (v := .ref (a 15)) (C := RX7) (T := TX7) (N := 29) hx hb htg ig_7 hown hK hP 0 (oh_wg (Nat.lt_of_lt_of_le (by decide) hn) (sM_0 hT)) rfl 27 (by decide) (htg _ q_1000) (fun _ h9 => h9) rfl dX7_findFar_170 ?_
                    refine lv_iload hx hb dX7_findFar_173 (lv_at hl 0 rfl) ?_
                    refine lv_aload_n hx hb dX7_findFar_175 rfl (lv_at hl 5 rfl) ?_
                    refine va_get (D := D) (ci := 7) (v := .ref (a 15)) (C := RX7) (T := TX7) (N := 29) hx hb htg ig_7 hown hK hP 0 (oh_wg (Nat.lt_of_lt_of_le (by decide) hn) (sM_0 hT)) rfl 27 (by decide) (htg _ q_1000) (fun _ h9 => h9) rfl dX7_findFar_176 ?_
                    refine lv_iload hx hb dX7_findFar_179 (lv_at hl 1 rfl) ?_
                    have n_88 : vp_in (ga (C (24 + (z49_6).toNatClampNeg)) ((0 : Int32)).toNatClampNeg) 16 := (rg_in (tA_rdc (lo := 0) (hi := 15) (hT0.broad b_59) (rg_in (rg_c (v := 0) (lo := 0) (hi := 0) (by decide)) (by decide)) (show _ = 0 by decide) (by decide)) (by decide))
                    refine th_lald hx hb hK hP 15 (Nat.lt_of_lt_of_le (by decide) hn) (sM_15 hT) n_88 dX7_findFar_181 ?_
                    refine lv_iload hx hb dX7_findFar_182 (lv_at hl 2 rfl) ?_
                    refine lv_i2l (v := Int32.toInt64 r_56) hx hb dX7_findFar_184 (by rfl) ?_
                    refine lv_ladd hx hb dX7_findFar_185 ?_
                    refine lv_aload_n hx hb dX7_findFar_186 rfl (lv_at hl 5 rfl) ?_
                    refine va_get (D := D) (ci := 7) (v := .ref (a 15)) (C := RX7) (T := TX7) (N := 29) hx hb htg ig_7 hown hK hP 0 (oh_wg (Nat.lt_of_lt_of_le (by decide) hn) (sM_0 hT)) rfl 27 (by decide) (htg _ q_1000) (fun _ h9 => h9) rfl dX7_findFar_187 ?_
                    refine lv_iload hx hb dX7_findFar_190 (lv_at hl 0 rfl) ?_
                    have n_89 : vp_in (ga (C (24 + (z49_6).toNatClampNeg)) ((1 : Int32)).toNatClampNeg) 16 := (rg_in (tA_rdc (lo := 0) (hi := 15) (hT0.broad b_61) (rg_in (rg_c (v := 1) (lo := 1) (hi := 1) (by decide)) (by decide)) (show _ = 1 by decide) (by decide)) (by decide))
                    refine th_lald hx hb hK hP 15 (Nat.lt_of_lt_of_le (by decide) hn) (sM_15 hT) n_89 dX7_findFar_192 ?_
                    refine W.lcmp hx hb dX7_findFar_193 ?_
                    refine lv_if_ge (tgt := 211) hx hb dX7_findFar_194 (by decide) (fun (c_90 : (0 : Int32) ≤ (lg_cmp ((gb (C_85 15) (ga (C (24 + (z49_6).toNatClampNeg)) ((0 : Int32)).toNatClampNeg).toNatClampNeg) + (Int32.toInt64 r_56)) (gb (C_85 15) (ga (C (24 + (z49_6).toNatClampNeg)) ((1 : Int32)).toNatClampNeg).toNatClampNeg))) => ?_) (fun (c_90 : ¬ ((0 : Int32) ≤ (lg_cmp ((gb (C_85 15) (ga (C (24 + (z49_6).toNatClampNeg)) ((0 : Int32)).toNatClampNeg).toNatClampNeg) + (Int32.toInt64 r_56)) (gb (C_85 15) (ga (C (24 + (z49_6).toNatClampNeg)) ((1 : Int32)).toNatClampNeg).toNatClampNeg)))) => ?_)
                    · refine lv_aload_n hx hb dX7_findFar_211 rfl (lv_at hl 5 rfl) ?_
                      refine va_get (D := D) (ci := 7) (v := .ref (a 15)) (C := RX7) (T := TX7) (N := 29) hx hb htg ig_7 hown hK hP 0 (oh_wg (Nat.lt_of_lt_of_le (by decide) hn) (sM_0 hT)) rfl 27 (by decide) (htg _ q_1000) (fun _ h9 => h9) rfl dX7_findFar_212 ?_
                      refine lv_iload hx hb dX7_findFar_215 (lv_at hl 0 rfl) ?_
                      have n_91 : vp_in (ga (C (24 + (z49_6).toNatClampNeg)) ((1 : Int32)).toNatClampNeg) 16 := (rg_in (tA_rdc (lo := 0) (hi := 15) (hT0.broad b_61) (rg_in (rg_c (v := 1) (lo := 1) (hi := 1) (by decide)) (by decide)) (show _ = 1 by decide) (by decide)) (by decide))
                      refine th_lald hx hb hK hP 15 (Nat.lt_of_lt_of_le (by decide) hn) (sM_15 hT) n_91 dX7_findFar_217 ?_
                      have n_92 : vp_in (ga (C (24 + (z49_6).toNatClampNeg)) ((1 : Int32)).toNatClampNeg) 16 := (rg_in (tA_rdc (lo := 0) (hi := 15) (hT0.broad b_61) (rg_in (rg_c (v := 1) (lo := 1) (hi := 1) (by decide)) (by decide)) (show _ = 1 by decide) (by decide)) (by decide))
                      refine th_last (T := TyM a E) (Rl := fr [(15, 16)] [] C) hx hb hK hP hD hS 15 (Nat.lt_of_lt_of_le (by decide) hn) (sM_15 hT) n_92 (hT.up 15 (by decide) rfl) (fr_st hF (by decide) (by decide)) dX7_findFar_218 (fun C_93 H locs e_94 hT hF hP hD hS => ?_)
                      have t_95 := hT
                      refine lv_iinc (v := z49_6 + 1) (lv' := [(6, .int (z49_6 + 1)), (9, .int (ga (C (24 + (z49_6).toNatClampNeg)) ((1 : Int32)).toNatClampNeg)), (8, .int (ga (C (24 + (z49_6).toNatClampNeg)) ((0 : Int32)).toNatClampNeg)), (7, .int r_56), (5, .int z39_5), (0, .ref (a 0)), (1, .int x1), (2, .int x2), (3, .int x3), (4, .int x4)]) hx hb dX7_findFar_219 hl (k := 3) rfl (by rfl) (by decide) rfl (fun ls hl => ?_)
                      refine lv_goto (tgt := 49) hx hb dX7_findFar_222 (by decide) ?_
                      exact ih_49 _ (hd_49 ▸ mu_up 24 (rn_ltu (u' := 23) (Int32.not_le.mp c_6) hz49_6 (fM_0_9 hT0) (by decide)) (by decide)) C_93 (z49_6 + 1) _ _ ls rfl (rg_w (rg_add (lo := 1) (hi := 24) (rn_ltu (u' := 23) (Int32.not_le.mp c_6) hz49_6 (fM_0_9 hT0) (by decide)) (rg_c (v := 1) (lo := 1) (hi := 1) (by decide)) (by decide)) (by decide)) (fun A hA hok hl hn => by have iz : rg z49_6 0 23 := (rg_w (lo := 0) (hi := 23) (rn_ltu (u' := 23) (Int32.not_le.mp c_6) hz49_6 (fM_0_9 hT0) (by decide)) (by decide)); have hr : z49_6 < A 5 0 0 := oh_lte (Int32.not_le.mp c_6) (hA.1 0 (by decide)); have hj : z49_6.toNatClampNeg < n0A A := n0_lt iz hr; have hK := absM_fr hA hT0 (show fr [(15, 16)] [] C K49 from (fr_tr (fr_tr (fr_tr fr_rf hLF_3 (by decide) (by decide)) hLF_39 (by decide) (by decide)) hLF_49 (by decide) (by decide))) (by decide) (by decide) (by decide); have hg := hq_8.2 A hK hok hl hr; rw [show (z49_6 + 1).toNatClampNeg = z49_6.toNatClampNeg + 1 from z_s23 iz]; have cn : cnA A x1 x2 x4 z49_6.toNatClampNeg = r_56 := (Eq.trans (pif_pos c_10) (hq_57 A hK hok hl hr).symm); have cb := cnN_b hok x2 hx1 hl hn hj; rw [cn] at cb; exact rfI_t (abA hok) (hx_49 A hA hok hl hn) hj (hg.mp (oh_b1 (rg_w (lo := 0) (hi := 1) (rn_nel (l' := 1) c_9 (oh_rgb hq_8.1) (rg_c (v := 0) (lo := 0) (hi := 0) (by decide)) (by decide)) (by decide)) c_9)) (congrArg Int32.toNatClampNeg (show ga (C (24 + (z49_6).toNatClampNeg)) ((0 : Int32)).toNatClampNeg = A 0 z49_6.toNatClampNeg 0 from colM_v (t := 0) hA (by decide) iz (by decide) hr (by unfold vis; omega))) (congrArg Int32.toNatClampNeg (show ga (C (24 + (z49_6).toNatClampNeg)) ((1 : Int32)).toNatClampNeg = A 0 z49_6.toNatClampNeg 1 from colM_v (t := 0) hA (by decide) iz (by decide) hr (by unfold vis; omega))) (x := Int32.toInt64 r_56) (by rw [oh_l32]; exact cb.1) cb.2 (Or.inl ⟨(oh_lc_lt (Int32.not_le.mp c_64)), rfl⟩) (st_gb e_86) (Or.inr ⟨(oh_lc_nlt (Int32.not_lt.mpr c_90)), rfl⟩) (st_gb e_94)) (by have h7 := Int32.lt_iff_toInt_lt.mp (Int32.not_le.mp c_6); have h8 : (z49_6 + 1).toInt = z49_6.toInt + 1 := oh_incr (rn_ltu (u' := 23) (Int32.not_le.mp c_6) hz49_6 (fM_0_9 hT0) (by decide)) (by decide); omega) hT hF (fr_ste (fr_ste hLF_49 e_86 (by decide) (by decide)) e_94 (by decide) (by decide)) hP hD hS (lv_sub hl [0, 4, 5, 6, 7, 8, 9] rfl)
                    · refine lv_aload_n hx hb dX7_findFar_197 rfl (lv_at hl 5 rfl) ?_
                      refine va_get (D := D) (ci := 7) (v := .ref (a 15)) (C := RX7) (T := TX7) (N := 29) hx hb htg ig_7 hown hK hP 0 (oh_wg (Nat.lt_of_lt_of_le (by decide) hn) (sM_0 hT)) rfl 27 (by decide) (htg _ q_1000) (fun _ h9 => h9) rfl dX7_findFar_198 ?_
                      refine lv_iload hx hb dX7_findFar_201 (lv_at hl 1 rfl) ?_
                      have n_96 : vp_in (ga (C (24 + (z49_6).toNatClampNeg)) ((0 : Int32)).toNatClampNeg) 16 := (rg_in (tA_rdc (lo := 0) (hi := 15) (hT0.broad b_59) (rg_in (rg_c (v := 0) (lo := 0) (hi := 0) (by decide)) (by decide)) (show _ = 0 by decide) (by decide)) (by decide))
                      refine th_lald hx hb hK hP 15 (Nat.lt_of_lt_of_le (by decide) hn) (sM_15 hT) n_96 dX7_findFar_203 ?_
                      refine lv_iload hx hb dX7_findFar_204 (lv_at hl 2 rfl) ?_
                      refine lv_i2l (v := Int32.toInt64 r_56) hx hb dX7_findFar_206 (by rfl) ?_
                      refine lv_ladd hx hb dX7_findFar_207 ?_
                      refine lv_goto (tgt := 218) hx hb dX7_findFar_208 (by decide) ?_
                      have n_97 : vp_in (ga (C (24 + (z49_6).toNatClampNeg)) ((1 : Int32)).toNatClampNeg) 16 := (rg_in (tA_rdc (lo := 0) (hi := 15) (hT0.broad b_61) (rg_in (rg_c (v := 1) (lo := 1) (hi := 1) (by decide)) (by decide)) (show _ = 1 by decide) (by decide)) (by decide))
                      refine th_last (T := TyM a E) (Rl := fr [(15, 16)] [] C) hx hb hK hP hD hS 15 (Nat.lt_of_lt_of_le (by decide) hn) (sM_15 hT) n_97 (hT.up 15 (by decide) rfl) (fr_st hF (by decide) (by decide)) dX7_findFar_218 (fun C_98 H locs e_99 hT hF hP hD hS => ?_)
                      have t_100 := hT
                      refine lv_iinc (v := z49_6 + 1) (lv' := [(6, .int (z49_6 + 1)), (9, .int (ga (C (24 + (z49_6).toNatClampNeg)) ((1 : Int32)).toNatClampNeg)), (8, .int (ga (C (24 + (z49_6).toNatClampNeg)) ((0 : Int32)).toNatClampNeg)), (7, .int r_56), (5, .int z39_5), (0, .ref (a 0)), (1, .int x1), (2, .int x2), (3, .int x3), (4, .int x4)]) hx hb dX7_findFar_219 hl (k := 3) rfl (by rfl) (by decide) rfl (fun ls hl => ?_)
                      refine lv_goto (tgt := 49) hx hb dX7_findFar_222 (by decide) ?_
                      exact ih_49 _ (hd_49 ▸ mu_up 24 (rn_ltu (u' := 23) (Int32.not_le.mp c_6) hz49_6 (fM_0_9 hT0) (by decide)) (by decide)) C_98 (z49_6 + 1) _ _ ls rfl (rg_w (rg_add (lo := 1) (hi := 24) (rn_ltu (u' := 23) (Int32.not_le.mp c_6) hz49_6 (fM_0_9 hT0) (by decide)) (rg_c (v := 1) (lo := 1) (hi := 1) (by decide)) (by decide)) (by decide)) (fun A hA hok hl hn => by have iz : rg z49_6 0 23 := (rg_w (lo := 0) (hi := 23) (rn_ltu (u' := 23) (Int32.not_le.mp c_6) hz49_6 (fM_0_9 hT0) (by decide)) (by decide)); have hr : z49_6 < A 5 0 0 := oh_lte (Int32.not_le.mp c_6) (hA.1 0 (by decide)); have hj : z49_6.toNatClampNeg < n0A A := n0_lt iz hr; have hK := absM_fr hA hT0 (show fr [(15, 16)] [] C K49 from (fr_tr (fr_tr (fr_tr fr_rf hLF_3 (by decide) (by decide)) hLF_39 (by decide) (by decide)) hLF_49 (by decide) (by decide))) (by decide) (by decide) (by decide); have hg := hq_8.2 A hK hok hl hr; rw [show (z49_6 + 1).toNatClampNeg = z49_6.toNatClampNeg + 1 from z_s23 iz]; have cn : cnA A x1 x2 x4 z49_6.toNatClampNeg = r_56 := (Eq.trans (pif_pos c_10) (hq_57 A hK hok hl hr).symm); have cb := cnN_b hok x2 hx1 hl hn hj; rw [cn] at cb; exact rfI_t (abA hok) (hx_49 A hA hok hl hn) hj (hg.mp (oh_b1 (rg_w (lo := 0) (hi := 1) (rn_nel (l' := 1) c_9 (oh_rgb hq_8.1) (rg_c (v := 0) (lo := 0) (hi := 0) (by decide)) (by decide)) (by decide)) c_9)) (congrArg Int32.toNatClampNeg (show ga (C (24 + (z49_6).toNatClampNeg)) ((0 : Int32)).toNatClampNeg = A 0 z49_6.toNatClampNeg 0 from colM_v (t := 0) hA (by decide) iz (by decide) hr (by unfold vis; omega))) (congrArg Int32.toNatClampNeg (show ga (C (24 + (z49_6).toNatClampNeg)) ((1 : Int32)).toNatClampNeg = A 0 z49_6.toNatClampNeg 1 from colM_v (t := 0) hA (by decide) iz (by decide) hr (by unfold vis; omega))) (x := Int32.toInt64 r_56) (by rw [oh_l32]; exact cb.1) cb.2 (Or.inl ⟨(oh_lc_lt (Int32.not_le.mp c_64)), rfl⟩) (st_gb e_86) (Or.inl ⟨(oh_lc_lt (Int32.not_le.mp c_90)), rfl⟩) (st_gb e_99)) (by have h7 := Int32.lt_iff_toInt_lt.mp (Int32.not_le.mp c_6); have h8 : (z49_6 + 1).toInt = z49_6.toInt + 1 := oh_incr (rn_ltu (u' := 23) (Int32.not_le.mp c_6) hz49_6 (fM_0_9 hT0) (by decide)) (by decide); omega) hT hF (fr_ste (fr_ste hLF_49 e_86 (by decide) (by decide)) e_99 (by decide) (by decide)) hP hD hS (lv_sub hl [0, 4, 5, 6, 7, 8, 9] rfl)
          exact L_49 _ K39 0 _ _ ls rfl (rg_w (rg_c (v := 0) (lo := 0) (hi := 0) (by decide)) (by decide)) (fun A hA hok hl hn => rfI_0 (hx_39 A hA hok hl hn)) (fM_0_9 hT0).1 hT hF fr_rf hP hD hS (lv_sub hl [0, 1, 2, 3, 4, 5, 6] rfl)
      exact L_39 _ K3 0 _ _ ls rfl (rg_w (rg_c (v := 0) (lo := 0) (hi := 0) (by decide)) (by decide)) (fun A hA hok hl hn => rf_0 hx3 hx_3 c_2) hT hF fr_rf hP hD hS (lv_sub hl [0, 1, 2, 3, 4, 5] rfl)
    · refine lv_aload_n hx hb dX7_findFar_10 rfl (lv_at hl 1 rfl) ?_
      refine va_get (D := D) (ci := 7) (v := .ref (a 15)) (C := RX7) (T := TX7) (N := 29) hx hb htg ig_7 hown hK hP 0 (oh_wg (Nat.lt_of_lt_of_le (by decide) hn) (sM_0 hT)) rfl 27 (by decide) (htg _ q_1000) (fun _ h9 => h9) rfl dX7_findFar_11 ?_
      refine lv_iload hx hb dX7_findFar_14 (lv_at hl 0 rfl) ?_
      refine lv_iload hx hb dX7_findFar_16 (lv_at hl 0 rfl) ?_
      refine lv_iload_n hx hb dX7_findFar_18 rfl (lv_at hl 4 rfl) ?_
      refine lv_icmp_ne (tgt := 26) hx hb dX7_findFar_19 (by decide) (fun (c_101 : ¬ (z3_5 = x3)) => ?_) (fun (c_101 : z3_5 = x3) => ?_)
      · refine lv_ldc2 (v := 1000000000000) hx hb hown (htg _ q_1355) dX7_findFar_26 ?_
        have n_102 : vp_in z3_5 16 := (rg_in (rn_ltu (u' := 15) (Int32.not_le.mp c_2) hz3_5 (rg_c (v := 16) (lo := 16) (hi := 16) (by decide)) (by decide)) (by decide))
        refine th_last (T := TyM a E) (Rl := fr [(15, 16)] [] C) hx hb hK hP hD hS 15 (Nat.lt_of_lt_of_le (by decide) hn) (sM_15 hT) n_102 (hT.up 15 (by decide) rfl) (fr_st hF (by decide) (by decide)) dX7_findFar_29 (fun C_103 H locs e_104 hT hF hP hD hS => ?_)
        have t_105 := hT
        refine lv_iinc (v := z3_5 + 1) (lv' := [(5, .int (z3_5 + 1)), (0, .ref (a 0)), (1, .int x1), (2, .int x2), (3, .int x3), (4, .int x4)]) hx hb dX7_findFar_30 hl (k := 0) rfl (by rfl) (by decide) rfl (fun ls hl => ?_)
        refine lv_goto (tgt := 3) hx hb dX7_findFar_33 (by decide) ?_
        exact ih_3 _ (hd_3 ▸ mu_up 16 (rn_ltu (u' := 15) (Int32.not_le.mp c_2) hz3_5 (rg_c (v := 16) (lo := 16) (hi := 16) (by decide)) (by decide)) (by decide)) C_103 (z3_5 + 1) _ _ ls rfl (rg_w (rg_add (lo := 1) (hi := 16) (rn_ltu (u' := 15) (Int32.not_le.mp c_2) hz3_5 (rg_c (v := 16) (lo := 16) (hi := 16) (by decide)) (by decide)) (rg_c (v := 1) (lo := 1) (hi := 1) (by decide)) (by decide)) (by decide)) (rf_in (rg_w (lo := 0) (hi := 15) (rn_ltu (u' := 15) (Int32.not_le.mp c_2) hz3_5 (rg_c (v := 16) (lo := 16) (hi := 16) (by decide)) (by decide)) (by decide)) hx_3 (st_gb e_104) (if_neg c_101).symm) hT hF (fr_ste hLF_3 e_104 (by decide) (by decide)) hP hD hS (lv_sub hl [0, 1, 2, 3, 4, 5] rfl)
      · refine lv_lconst (v := 0) hx hb dX7_findFar_22 (by decide) ?_
        refine lv_goto (tgt := 29) hx hb dX7_findFar_23 (by decide) ?_
        have n_106 : vp_in z3_5 16 := (rg_in (rn_eq c_101 hx3) (by decide))
        refine th_last (T := TyM a E) (Rl := fr [(15, 16)] [] C) hx hb hK hP hD hS 15 (Nat.lt_of_lt_of_le (by decide) hn) (sM_15 hT) n_106 (hT.up 15 (by decide) rfl) (fr_st hF (by decide) (by decide)) dX7_findFar_29 (fun C_107 H locs e_108 hT hF hP hD hS => ?_)
        have t_109 := hT
        refine lv_iinc (v := z3_5 + 1) (lv' := [(5, .int (z3_5 + 1)), (0, .ref (a 0)), (1, .int x1), (2, .int x2), (3, .int x3), (4, .int x4)]) hx hb dX7_findFar_30 hl (k := 0) rfl (by rfl) (by decide) rfl (fun ls hl => ?_)
        refine lv_goto (tgt := 3) hx hb dX7_findFar_33 (by decide) ?_
        exact ih_3 _ (hd_3 ▸ mu_up 16 (rn_eq c_101 hx3) (by decide)) C_107 (z3_5 + 1) _ _ ls rfl (rg_w (rg_add (lo := 1) (hi := 16) (rn_eq c_101 hx3) (rg_c (v := 1) (lo := 1) (hi := 1) (by decide)) (by decide)) (by decide)) (rf_in (rg_w (lo := 0) (hi := 15) (rn_eq c_101 hx3) (by decide)) hx_3 (st_gb e_108) (if_pos c_101).symm) hT hF (fr_ste hLF_3 e_108 (by decide) (by decide)) hP hD hS (lv_sub hl [0, 1, 2, 3, 4, 5] rfl)
  exact L_3 _ C 0 _ _ ls rfl (rg_w (rg_c (v := 0) (lo := 0) (hi := 0) (by decide)) (by decide)) (fun p hp => absurd hp (by show ¬ (p : Int) < 0; omega)) hT hF fr_rf hP hD hS (lv_sub hl [0, 1, 2, 3, 4, 5] rfl)

set_option maxHeartbeats 4000000 in
set_option maxRecDepth 100000 in
theorem e_X7_partsCoin (l : Launch) (D : va_G) (E : Nat → ClassId) (G : Nat → Nat) (a : Nat → Nat) (C : Nat → va_E) (n : Nat) (hn : 74 ≤ n) (hT : TyM a E C) (x1 : Int32) : Met l yX7_partsCoin (oh_w yX7_partsCoin cX7_partsCoin 4 (some .int)) ({ frames := 0, cells := 0, slots := 0, locals := 0 }) (oh_Pp D E G [.ref (a 0), .int x1] (oh_W n a C)) (vp_Si (fun r => (∀ A : LA, absM C A → r = sumA A x1 1 (A 5 0 3).toNatClampNeg))) 0 0 (fun _ => False) := by
  refine Met.ofW (cc := cX7_partsCoin) (maxL := 4) (ret := (some .int)) (by decide) rfl ?_
  intro p e s m args below meth c s₁ B hml hv
  obtain ⟨rfl, hP, hK, hG⟩ := hv
  have hx := B.exec
  have hb := B.bytes
  have hr := B.returns
  have hts := atoms_spec (ws := (oh_w yX7_partsCoin cX7_partsCoin 4 (some .int))) B.pre
  have htg : ∀ w ∈ oh_t, w.before _ s = true := fun w h => hts w (List.mem_cons_of_mem _ h)
  have hown : s.vm.findClass RX7 = some m.cls := findClass_of_methodNamed B.named
  have hlocks := B.notSynchronized
  have hT0 := hT
  have hS : va_S (fun _ => False) s.heap s.heap [] := va_S.rf
  have hl := lv_entry ([.ref (a 0), .int x1]) (n := 4) (Nat.le_of_ble_eq_true rfl)
  rw [lg_entry_eq]
  generalize (lg_sl ([.ref (a 0), .int x1]) ++ List.replicate (4 - (lg_sl ([.ref (a 0), .int x1])).length) Slot.unset).toArray = ls at hl ⊢
  have hl : lv_has ls 4 [(0, .ref (a 0)), (1, .int x1)] := hl
  refine oh_genQ (fun Q hQ => ?_)
  refine lv_iconst (v := 0) hx hb dX7_partsCoin_0 (by decide) ?_
  refine lv_istore_n (lv' := [(2, .int 0), (0, .ref (a 0)), (1, .int x1)]) hx hb dX7_partsCoin_1 rfl hl (by decide) rfl (fun ls hl => ?_)
  refine lv_iconst (v := 0) hx hb dX7_partsCoin_2 (by decide) ?_
  refine lv_istore_n (lv' := [(3, .int 0), (2, .int 0), (0, .ref (a 0)), (1, .int x1)]) hx hb dX7_partsCoin_3 rfl hl (by decide) rfl (fun ls hl => ?_)
  have L_4 : ∀ (d : Nat) (z4_3 : Int32) (z4_2 : Int32) (ls : Array Slot), (5 - z4_3.toInt).toNat = d → rg z4_3 0 5 → (∀ A : LA, absM C A → z4_2 = sumA A x1 1 z4_3.toNatClampNeg) → (z4_3.toInt ≤ (gi (C 0) 15).toInt) → lv_has ls 4 [(3, .int z4_3), (2, .int z4_2), (0, .ref (a 0)), (1, .int x1)] → W p l e ({ frames := 0, cells := 0, slots := 0, locals := 0 }) s m (([.ref (a 0), .int x1] : List Value).toArray) below meth c s.heap [] 0 0 Q (F0 m 4 ls []) := by
    intro d
    induction d using Nat.strongRecOn with
    | ind d ih_4 =>
    intro z4_3 z4_2 ls hd_4 hz4_3 hx_4 hy_4 hl
    refine lv_iload_n hx hb dX7_partsCoin_4 rfl (lv_at hl 0 rfl) ?_
    refine lv_aload_n hx hb dX7_partsCoin_5 rfl (lv_at hl 2 rfl) ?_
    refine va_get (D := D) (ci := 7) (v := .int (gi (C 0) 15)) (C := RX7) (T := TX7) (N := 29) hx hb htg ig_7 hown hK hP 0 (oh_wg (Nat.lt_of_lt_of_le (by decide) hn) (sM_0 hT)) rfl 15 (by decide) (htg _ q_988) (fun _ h9 => h9) rfl dX7_partsCoin_6 ?_
    refine lv_icmp_ge (tgt := 41) hx hb dX7_partsCoin_9 (by decide) (fun (c_1 : (gi (C 0) 15) ≤ z4_3) => ?_) (fun (c_1 : ¬ ((gi (C 0) 15) ≤ z4_3)) => ?_)
    · refine lv_iload_n hx hb dX7_partsCoin_41 rfl (lv_at hl 1 rfl) ?_
      rw [hQ]
      exact W.iret (v := z4_2) hx hb hr (fun t ht hW => ⟨z4_2, rfl, (fun A hA => by have h1 := hx_4 A hA; rw [(show z4_3 = A 5 0 3 from Eq.trans (show z4_3 = gi (C 0) 15 from Int32.toInt_inj.mp (by have h7 := Int32.le_iff_toInt_le.mp c_1; have h8 := hy_4; omega)) (hA.1 3 (by decide)))] at h1; exact h1), ht⟩) (fun q h => by cases h) dX7_partsCoin_42
    · refine lv_iload_n hx hb dX7_partsCoin_12 rfl (lv_at hl 1 rfl) ?_
      refine lv_iload_n hx hb dX7_partsCoin_13 rfl (lv_at hl 3 rfl) ?_
      refine lv_iload_n hx hb dX7_partsCoin_14 rfl (lv_at hl 0 rfl) ?_
      refine lv_ishr hx hb dX7_partsCoin_15 ?_
      refine lv_iconst (v := 1) hx hb dX7_partsCoin_16 (by decide) ?_
      refine lv_iand hx hb dX7_partsCoin_17 ?_
      refine lv_if_eq (tgt := 32) hx hb dX7_partsCoin_18 (by decide) (fun (c_2 : ((x1 >>> (z4_3 &&& 31)) &&& 1) = 0) => ?_) (fun (c_2 : ¬ (((x1 >>> (z4_3 &&& 31)) &&& 1) = 0)) => ?_)
      · refine lv_iconst (v := 0) hx hb dX7_partsCoin_32 (by decide) ?_
        refine lv_iadd hx hb dX7_partsCoin_33 ?_
        refine lv_istore_n (lv' := [(2, .int (z4_2 + 0)), (3, .int z4_3), (0, .ref (a 0)), (1, .int x1)]) hx hb dX7_partsCoin_34 rfl hl (by decide) rfl (fun ls hl => ?_)
        refine lv_iinc (v := z4_3 + 1) (lv' := [(3, .int (z4_3 + 1)), (2, .int (z4_2 + 0)), (0, .ref (a 0)), (1, .int x1)]) hx hb dX7_partsCoin_35 hl (k := 1) rfl (by rfl) (by decide) rfl (fun ls hl => ?_)
        refine lv_goto (tgt := 4) hx hb dX7_partsCoin_38 (by decide) ?_
        exact ih_4 _ (hd_4 ▸ mu_up 5 (rn_ltu (u' := 4) (Int32.not_le.mp c_1) hz4_3 (fM_0_15 hT0) (by decide)) (by decide)) (z4_3 + 1) (z4_2 + 0) ls rfl (rg_w (rg_add (lo := 1) (hi := 5) (rn_ltu (u' := 4) (Int32.not_le.mp c_1) hz4_3 (fM_0_15 hT0) (by decide)) (rg_c (v := 1) (lo := 1) (hi := 1) (by decide)) (by decide)) (by decide)) (fun A hA => by rw [sumA_s (rg_w (lo := 0) (hi := 4) (rn_ltu (u' := 4) (Int32.not_le.mp c_1) hz4_3 (fM_0_15 hT0) (by decide)) (by decide)) (by decide), pif_pos c_2, ← hx_4 A hA]) (by have h7 := Int32.lt_iff_toInt_lt.mp (Int32.not_le.mp c_1); have h8 : (z4_3 + 1).toInt = z4_3.toInt + 1 := oh_incr (rn_ltu (u' := 4) (Int32.not_le.mp c_1) hz4_3 (fM_0_15 hT0) (by decide)) (by decide); omega) (lv_sub hl [0, 1, 2, 3] rfl)
      · refine lv_aload_n hx hb dX7_partsCoin_21 rfl (lv_at hl 2 rfl) ?_
        refine va_get (D := D) (ci := 7) (v := .ref (a 12)) (C := RX7) (T := TX7) (N := 29) hx hb htg ig_7 hown hK hP 0 (oh_wg (Nat.lt_of_lt_of_le (by decide) hn) (sM_0 hT)) rfl 16 (by decide) (htg _ q_989) (fun _ h9 => h9) rfl dX7_partsCoin_22 ?_
        refine lv_iload_n hx hb dX7_partsCoin_25 rfl (lv_at hl 0 rfl) ?_
        have n_3 : vp_in z4_3 5 := (rg_in (rn_ltu (u' := 4) (Int32.not_le.mp c_1) hz4_3 (fM_0_15 hT0) (by decide)) (by decide))
        have b_4 : (z4_3).toNatClampNeg < 5 := vp_lt n_3
        refine th_aald hx hb hK hP 12 2 (Nat.lt_of_lt_of_le (by decide) hn) (sM_12 hT) rfl n_3 dX7_partsCoin_26 ?_
        refine lv_iconst (v := 1) hx hb dX7_partsCoin_27 (by decide) ?_
        refine th_iald hx hb hK hP (69 + (z4_3).toNatClampNeg) (lt_blk b_4 hn (by decide)) (hT.bpart b_4).1 (rg_in (rg_c (v := 1) (lo := 1) (hi := 1) (by decide)) (by decide)) dX7_partsCoin_28 ?_
        refine lv_goto (tgt := 33) hx hb dX7_partsCoin_29 (by decide) ?_
        refine lv_iadd hx hb dX7_partsCoin_33 ?_
        refine lv_istore_n (lv' := [(2, .int (z4_2 + (ga (C (69 + (z4_3).toNatClampNeg)) ((1 : Int32)).toNatClampNeg))), (3, .int z4_3), (0, .ref (a 0)), (1, .int x1)]) hx hb dX7_partsCoin_34 rfl hl (by decide) rfl (fun ls hl => ?_)
        refine lv_iinc (v := z4_3 + 1) (lv' := [(3, .int (z4_3 + 1)), (2, .int (z4_2 + (ga (C (69 + (z4_3).toNatClampNeg)) ((1 : Int32)).toNatClampNeg))), (0, .ref (a 0)), (1, .int x1)]) hx hb dX7_partsCoin_35 hl (k := 1) rfl (by rfl) (by decide) rfl (fun ls hl => ?_)
        refine lv_goto (tgt := 4) hx hb dX7_partsCoin_38 (by decide) ?_
        exact ih_4 _ (hd_4 ▸ mu_up 5 (rn_ltu (u' := 4) (Int32.not_le.mp c_1) hz4_3 (fM_0_15 hT0) (by decide)) (by decide)) (z4_3 + 1) (z4_2 + (ga (C (69 + (z4_3).toNatClampNeg)) ((1 : Int32)).toNatClampNeg)) ls rfl (rg_w (rg_add (lo := 1) (hi := 5) (rn_ltu (u' := 4) (Int32.not_le.mp c_1) hz4_3 (fM_0_15 hT0) (by decide)) (rg_c (v := 1) (lo := 1) (hi := 1) (by decide)) (by decide)) (by decide)) (fun A hA => by rw [sumA_s (rg_w (lo := 0) (hi := 4) (rn_ltu (u' := 4) (Int32.not_le.mp c_1) hz4_3 (fM_0_15 hT0) (by decide)) (by decide)) (by decide), pif_neg c_2, ← hx_4 A hA, (show ga (C (69 + (z4_3).toNatClampNeg)) ((1 : Int32)).toNatClampNeg = A 3 z4_3.toNatClampNeg 1 from colM_v (t := 3) hA (by decide) (rg_w (lo := 0) (hi := 4) (rn_ltu (u' := 4) (Int32.not_le.mp c_1) hz4_3 (fM_0_15 hT0) (by decide)) (by decide)) (by decide) (show z4_3 < A 5 0 3 from oh_lte (Int32.not_le.mp c_1) (hA.1 3 (by decide))) (by unfold vis; omega))]) (by have h7 := Int32.lt_iff_toInt_lt.mp (Int32.not_le.mp c_1); have h8 : (z4_3 + 1).toInt = z4_3.toInt + 1 := oh_incr (rn_ltu (u' := 4) (Int32.not_le.mp c_1) hz4_3 (fM_0_15 hT0) (by decide)) (by decide); omega) (lv_sub hl [0, 1, 2, 3] rfl)
  exact L_4 _ 0 0 ls rfl (rg_w (rg_c (v := 0) (lo := 0) (hi := 0) (by decide)) (by decide)) (fun A hA => rfl) (fM_0_15 hT0).1 (lv_sub hl [0, 1, 2, 3] rfl)

set_option maxHeartbeats 4000000 in
set_option maxRecDepth 100000 in
theorem e_X7_cheapestOf (l : Launch) (D : va_G) (E : Nat → ClassId) (G : Nat → Nat) (sz : Nat) (a : Nat → Nat) (C : Nat → va_E) (n : Nat) (hn : 74 ≤ n) (hT : TyM a E C) (x1 : Int32) (x2 : Int32) (x3 : Int32) (x4 : Int32) (x5 : Int32) (hx1 : rg x1 0 4) (hx3 : rg x3 0 15) (hx4 : rg x4 0 15) (hw : oh_pos C x1) : Met l yX7_cheapestOf (oh_w yX7_cheapestOf cX7_cheapestOf 6 (some .int)) ({ frames := 6, cells := 0, slots := 0, locals := 152 }) (oh_Pm D E G [.ref (a 0), .int x1, .int x2, .int x3, .int x4, .int x5] (oh_W n a C) sz) (va_Qi (fun r (u : Nat → va_E) => TyM a E u ∧ fr [(15, 16)] [] C u ∧ (∀ A : LA, absM C A → okA A → x1 < A 5 0 2 → rg x5 1 20 → r = mcA A x1 x2 x3 x4 x5)) (oh_B D (va_A (oh_W n a C) sz) (fun u => oh_W n a u)) (va_A (oh_W n a C) sz)) 0 0 (va_A (oh_W n a C) sz) := by
  refine Met.ofW (cc := cX7_cheapestOf) (maxL := 6) (ret := (some .int)) (by decide) rfl ?_
  intro p e s m args below meth c s₁ B hml hv
  obtain ⟨rfl, hsz, hP, hK, hD0, hG⟩ := hv
  have hx := B.exec
  have hb := B.bytes
  have hr := B.returns
  have hts := atoms_spec (ws := (oh_w yX7_cheapestOf cX7_cheapestOf 6 (some .int))) B.pre
  have htg : ∀ w ∈ oh_t, w.before _ s = true := fun w h => hts w (List.mem_cons_of_mem _ h)
  have hown : s.vm.findClass RX7 = some m.cls := findClass_of_methodNamed B.named
  have hlocks := B.notSynchronized
  have hT0 := hT
  subst hsz
  have hD := hD0.self (sz := s.heap.size)
  generalize hAe : va_A (oh_W n a C) s.heap.size = A at hD hG ⊢
  have hA : ∀ q : Nat, s.heap.size ≤ q → A q := fun q h => by rw [← hAe]; exact Or.inr h
  have hS : va_S A s.heap s.heap [] := va_S.rf
  have hF : fr [(15, 16)] [] C C := fr_rf
  have hl := lv_entry ([.ref (a 0), .int x1, .int x2, .int x3, .int x4, .int x5]) (n := 6) (Nat.le_of_ble_eq_true rfl)
  rw [lg_entry_eq]
  generalize (lg_sl ([.ref (a 0), .int x1, .int x2, .int x3, .int x4, .int x5]) ++ List.replicate (6 - (lg_sl ([.ref (a 0), .int x1, .int x2, .int x3, .int x4, .int x5])).length) Slot.unset).toArray = ls at hl ⊢
  have hl : lv_has ls 6 [(0, .ref (a 0)), (1, .int x1), (2, .int x2), (3, .int x3), (4, .int x4), (5, .int x5)] := hl
  refine oh_genQ (fun Q hQ => ?_)
  refine lv_aload_n hx hb dX7_cheapestOf_0 rfl (lv_at hl 0 rfl) ?_
  refine lv_iload_n hx hb dX7_cheapestOf_1 rfl (lv_at hl 1 rfl) ?_
  refine lv_iload_n hx hb dX7_cheapestOf_2 rfl (lv_at hl 2 rfl) ?_
  refine lv_iload hx hb dX7_cheapestOf_3 (lv_at hl 4 rfl) ?_
  refine lv_iload hx hb dX7_cheapestOf_5 (lv_at hl 5 rfl) ?_
  refine tm_Vv (As := [.int x1, .int x2, .int x4, .int x5]) (rest := []) ⟨hx, hb, hml, hown, htg⟩ (e_X7_findFar l D E G _ a C n hn hT x1 x2 x4 x5 (rg_w hx1 (by decide)) (rg_w hx4 (by decide)) hw) (cwV 4 htg (oh_gV q_1351 q_1353 q_60 q_73 q_1354) rfl rfl rfl pdVX7_findFar ⟨Nat.le_of_ble_eq_true rfl, Nat.le_of_ble_eq_true rfl⟩) hK hP hD hG hS hA (va_recv hK hP (ci := 7) (q0 := 0) rfl (oh_wg (Nat.lt_of_lt_of_le (by decide) hn) (sM_0 hT))) rfl hl.1 rfl (Nat.le_of_ble_eq_true rfl) dX7_cheapestOf_7 ⟨Nat.le_of_ble_eq_true rfl, Nat.le_of_ble_eq_true rfl⟩ (fun C_2 H locs hq_3 hP hD hS => ?_)
  obtain ⟨hT, f_4, hq_3⟩ := hq_3
  have hF := fr_tr hF f_4 (by decide) (by decide)
  refine W.widen (k := 0) (n := 0) (Nat.le_refl _) (Nat.le_refl _) ?_
  have t_5 := hT
  refine lv_aload_n hx hb dX7_cheapestOf_10 rfl (lv_at hl 0 rfl) ?_
  refine va_get (D := D) (ci := 7) (v := .ref (a 15)) (C := RX7) (T := TX7) (N := 29) hx hb htg ig_7 hown hK hP 0 (oh_wg (Nat.lt_of_lt_of_le (by decide) hn) (sM_0 hT)) rfl 27 (by decide) (htg _ q_1000) (fun _ h9 => h9) rfl dX7_cheapestOf_11 ?_
  refine lv_iload_n hx hb dX7_cheapestOf_14 rfl (lv_at hl 3 rfl) ?_
  have n_6 : vp_in x3 16 := (rg_in hx3 (by decide))
  refine th_lald hx hb hK hP 15 (Nat.lt_of_lt_of_le (by decide) hn) (sM_15 hT) n_6 dX7_cheapestOf_15 ?_
  refine lv_ldc2 (v := 1000000000000) hx hb hown (htg _ q_1355) dX7_cheapestOf_16 ?_
  refine W.lcmp hx hb dX7_cheapestOf_19 ?_
  refine lv_if_lt (tgt := 27) hx hb dX7_cheapestOf_20 (by decide) (fun (c_7 : (lg_cmp (gb (C_2 15) (x3).toNatClampNeg) 1000000000000) < 0) => ?_) (fun (c_7 : ¬ ((lg_cmp (gb (C_2 15) (x3).toNatClampNeg) 1000000000000) < 0)) => ?_)
  · refine lv_aload_n hx hb dX7_cheapestOf_27 rfl (lv_at hl 0 rfl) ?_
    refine va_get (D := D) (ci := 7) (v := .ref (a 15)) (C := RX7) (T := TX7) (N := 29) hx hb htg ig_7 hown hK hP 0 (oh_wg (Nat.lt_of_lt_of_le (by decide) hn) (sM_0 hT)) rfl 27 (by decide) (htg _ q_1000) (fun _ h9 => h9) rfl dX7_cheapestOf_28 ?_
    refine lv_iload_n hx hb dX7_cheapestOf_31 rfl (lv_at hl 3 rfl) ?_
    have n_8 : vp_in x3 16 := (rg_in hx3 (by decide))
    refine th_lald hx hb hK hP 15 (Nat.lt_of_lt_of_le (by decide) hn) (sM_15 hT) n_8 dX7_cheapestOf_32 ?_
    refine lv_l2i (v := Int64.toInt32 (gb (C_2 15) (x3).toNatClampNeg)) hx hb dX7_cheapestOf_33 rfl ?_
    refine lv_iload hx hb dX7_cheapestOf_34 (lv_at hl 5 rfl) ?_
    refine lv_aload_n hx hb dX7_cheapestOf_36 rfl (lv_at hl 0 rfl) ?_
    refine lv_iload_n hx hb dX7_cheapestOf_37 rfl (lv_at hl 2 rfl) ?_
    refine tq_V (As := [.int x2]) (rest := [.int x5, .int (Int64.toInt32 (gb (C_2 15) (x3).toNatClampNeg))]) (ws := (oh_W n a C_2)) ⟨hx, hb, hml, hown, htg⟩ (e_X7_partsCoin l D E G a C_2 n hn hT x2) (cwV 1 htg (oh_gV q_1356 q_1358 q_61 q_73 q_1359) rfl rfl rfl pdVX7_partsCoin ⟨Nat.le_of_ble_eq_true rfl, Nat.le_of_ble_eq_true rfl⟩) hK hP hG hS (va_recv hK hP (ci := 7) (q0 := 0) rfl (oh_wg (Nat.lt_of_lt_of_le (by decide) hn) (sM_0 hT))) rfl hl.1 rfl (Nat.le_of_ble_eq_true rfl) dX7_cheapestOf_38 ⟨Nat.le_of_ble_eq_true rfl, Nat.le_of_ble_eq_true rfl⟩ (fun r_9 hq_10 => ?_)
    refine lv_imul hx hb dX7_cheapestOf_41 ?_
    refine lv_iadd hx hb dX7_cheapestOf_42 ?_
    rw [hQ]
    exact W.iret (v := (Int64.toInt32 (gb (C_2 15) (x3).toNatClampNeg)) + (x5 * r_9)) hx hb hr (fun t ht hW => ⟨⟨(Int64.toInt32 (gb (C_2 15) (x3).toNatClampNeg)) + (x5 * r_9), C_2, rfl, ⟨hT, hF, (fun A hA hok hl hn => by have h0 : ¬ x5 = 0 := (fun e => by rw [e] at hn; exact absurd hn.1 (by decide)); obtain ⟨hnn, D⟩ := hq_3 A hA hok hl ⟨by have := hn.1; omega, hn.2⟩; rw [EnA_1 h0] at D; have hF := ec_fin hok x2 hx1 hl (n := x5) ⟨by have := hn.1; omega, hn.2⟩ (p16 hx4); exact mc_y hnn D hF hx3 (oh_lc_lt c_7) rfl (hq_10 A (absM_fr hA hT0 (show fr [(15, 16)] [] C C_2 from (fr_tr fr_rf f_4 (by decide) (by decide))) (by decide) (by decide) (by decide))))⟩, ⟨by rw [ht]; exact hP, hD⟩⟩, hS.F ht⟩) hS.2.2 dX7_cheapestOf_43
  · refine lv_iconst (v := (-1)) hx hb dX7_cheapestOf_23 (by decide) ?_
    refine lv_goto (tgt := 43) hx hb dX7_cheapestOf_24 (by decide) ?_
    rw [hQ]
    exact W.iret (v := (-1)) hx hb hr (fun t ht hW => ⟨⟨(-1), C_2, rfl, ⟨hT, hF, (fun A hA hok hl hn => by have h0 : ¬ x5 = 0 := (fun e => by rw [e] at hn; exact absurd hn.1 (by decide)); obtain ⟨hnn, D⟩ := hq_3 A hA hok hl ⟨by have := hn.1; omega, hn.2⟩; rw [EnA_1 h0] at D; have hF := ec_fin hok x2 hx1 hl (n := x5) ⟨by have := hn.1; omega, hn.2⟩ (p16 hx4); exact mc_n hnn D hF hx3 (oh_lc_nlt c_7))⟩, ⟨by rw [ht]; exact hP, hD⟩⟩, hS.F ht⟩) hS.2.2 dX7_cheapestOf_43
/-! FULL: a step: props that stand from then on -/
noncomputable def spU (A : LA) (w s : Int32) (i j : Nat) : LA := fun t b k => pif (t = 1 ∧ k = 7 ∧ b < j ∧ rdA A b = i ∧ ndA A w s b = 1) 1 (A t b k)
theorem spU_o {A : LA} {w s : Int32} {i j t b k : Nat} (h : ¬ (t = 1 ∧ k = 7)) : spU A w s i j t b k = A t b k := pif_neg (fun z => h ⟨z.1, z.2.1⟩)
theorem spU_r {A : LA} {w s : Int32} {i j t b k : Nat} (h : j ≤ b) : spU A w s i j t b k = A t b k := pif_neg (fun z => absurd z.2.2.1 (by omega))
theorem spU_0 (A : LA) (w s : Int32) (i : Nat) : spU A w s i 0 = A := by
  funext t b k
  exact spU_r (Nat.zero_le b)
theorem spU_n {A : LA} {w s : Int32} {i j : Nat} (h : ¬ (rdA A j = i ∧ ndA A w s j = 1)) : spU A w s i (j + 1) = spU A w s i j := by
  funext t b k
  by_cases q : t = 1 ∧ k = 7 ∧ b < j ∧ rdA A b = i ∧ ndA A w s b = 1
  · exact Eq.trans (pif_pos ⟨q.1, q.2.1, by omega, q.2.2.2⟩) (pif_pos q).symm
  · refine Eq.trans (pif_neg (fun z => ?_)) (pif_neg q).symm
    by_cases e : b = j
    · rw [e] at z
      exact h z.2.2.2
    · exact q ⟨z.1, z.2.1, by omega, z.2.2.2⟩
theorem spU_y {A : LA} {w s : Int32} {i j : Nat} (h : rdA A j = i ∧ ndA A w s j = 1) : spU A w s i (j + 1) = putA (spU A w s i j) 1 j 7 1 := by
  funext t b k
  unfold putA
  by_cases e : t = 1 ∧ b = j ∧ k = 7
  · obtain ⟨e1, e2, e3⟩ := e
    subst e1 e2 e3
    rw [if_pos ⟨rfl, rfl, rfl⟩]
    exact pif_pos ⟨rfl, rfl, by omega, h⟩
  · rw [if_neg e]
    by_cases q : t = 1 ∧ k = 7 ∧ b < j ∧ rdA A b = i ∧ ndA A w s b = 1
    · exact Eq.trans (pif_pos ⟨q.1, q.2.1, by omega, q.2.2.2⟩) (pif_pos q).symm
    · refine Eq.trans (pif_neg (fun z => ?_)) (pif_neg q).symm
      by_cases e2 : b = j
      · exact e ⟨z.1, e2, z.2.1⟩
      · exact q ⟨z.1, z.2.1, by omega, z.2.2.2⟩
theorem sumA_c {A B : LA} {s : Int32} {col : Nat} (h : ∀ k, A 3 k col = B 3 k col) : ∀ k, sumA A s col k = sumA B s col k := by
  intro k
  induction k with
  | zero => rfl
  | succ k ih =>
    show sumA A s col k + pif ((s >>> (Int32.ofNat k &&& 31)) &&& 1 = 0) 0 (A 3 k col) = sumA B s col k + pif ((s >>> (Int32.ofNat k &&& 31)) &&& 1 = 0) 0 (B 3 k col)
    rw [ih, h k]
theorem aL_U {A : LA} {w s : Int32} {i j : Nat} {w' s' : Int32} : aL (spU A w s i j) w' s' = aL A w' s' := by
  unfold aL
  rw [spU_o (by omega), spU_o (by omega), spU_o (by omega), spU_o (by omega), sumA_c (B := A) (fun k => spU_o (by omega))]
theorem len_U {A : LA} {w s : Int32} {i j : Nat} {w' : Int32} : lenA (spU A w s i j) w' = lenA A w' := by
  unfold lenA
  rw [spU_o (by omega), spU_o (by omega)]
theorem nd_U {A : LA} {w s : Int32} {i j b : Nat} (h : j ≤ b) : ndA (spU A w s i j) w s b = ndA A w s b := by
  unfold ndA snA
  rw [aL_U, spU_r h, spU_r h, spU_r h, spU_r h, spU_r h, spU_r h, spU_r h, spU_r h, spU_o (t := 4) (by omega), spU_o (t := 2) (by omega), spU_o (t := 2) (by omega)]
theorem pkX_U {C : Nat → va_E} {A : LA} {w s : Int32} {i j : Nat} (h : pkX C A w s) : pkX C (spU A w s i j) w s := by
  unfold pkX
  rw [aL_U, len_U, spU_o (by omega), spU_o (by omega), spU_o (by omega), sumA_c (B := A) (fun k => spU_o (by omega))]
  exact h
theorem ok_U {A : LA} (h : okA A) (w s : Int32) (i j : Nat) : okA (spU A w s i j) := by
  have e : ∀ t b k, ¬ (t = 1 ∧ k = 7) → spU A w s i j t b k = A t b k := fun t b k q => spU_o q
  obtain ⟨h1, h2, h3, h4, h5, h6⟩ := h
  have r : ∀ t, ¬ t = 1 → ∀ b, spU A w s i j t b = A t b := fun t q b => funext (fun k => e t b k (fun z => q z.1))
  refine ⟨?_, ?_, fun b hb => ?_, fun b hb => ?_, fun b hb => ?_, fun b hb => ?_⟩
  · rw [r 5 (by decide)]
    exact h1
  · rw [r 4 (by decide)]
    exact h2
  · rw [r 5 (by decide)] at hb
    rw [r 0 (by decide)]
    exact h3 b hb
  · rw [r 5 (by decide)] at hb
    have k := h4 b hb
    unfold okVB at k ⊢
    rw [e 1 b 0 (by omega), e 1 b 1 (by omega), e 1 b 2 (by omega), e 1 b 3 (by omega), e 1 b 4 (by omega), e 1 b 5 (by omega), e 1 b 6 (by omega), e 1 b 8 (by omega), e 1 b 9 (by omega)]
    by_cases q : (1 : Nat) = 1 ∧ (7 : Nat) = 7 ∧ b < j ∧ rdA A b = i ∧ ndA A w s b = 1
    · have e7 : spU A w s i j 1 b 7 = 1 := pif_pos q
      rw [e7]
      refine ⟨k.1, k.2.1, k.2.2.1, k.2.2.2.1, k.2.2.2.2.1, k.2.2.2.2.2.1, k.2.2.2.2.2.2.1, ⟨by decide, by decide⟩, k.2.2.2.2.2.2.2.2.1, k.2.2.2.2.2.2.2.2.2.1, fun z => ?_⟩
      have n := q.2.2.2.2
      unfold ndA ndF at n
      by_cases c1 : bAxF (A 1 b 1) (A 1 b 3) (A 1 b 8) (A 1 b 9) (A 4 0 2) < aL A w s
      · rw [pif_pos c1] at n
        exact absurd n (by decide)
      · rw [pif_neg c1] at n
        by_cases c2 : snA A w s b ≤ bAlF (A 1 b 7 = 1) (A 1 b 1) (A 1 b 4) (A 1 b 5) (A 1 b 8) (A 1 b 9) (A 4 0 2)
        · rw [pif_pos c2] at n
          exact absurd n (by decide)
        · rw [pif_neg c2, pif_pos (Or.inr z)] at n
          exact absurd n (by decide)
    · have e7 : spU A w s i j 1 b 7 = A 1 b 7 := pif_neg q
      rw [e7]
      exact k
  · rw [r 5 (by decide)] at hb
    rw [r 2 (by decide)]
    exact h5 b hb
  · rw [r 5 (by decide)] at hb
    rw [r 3 (by decide)]
    exact h6 b hb
/-- a told road can be gone from a place -/
def wkOk (A : LA) (w s : Int32) (v : Int64) (p : Int32) : Prop := (0 ≤ v ∧ v < Int32.toInt64 (A 5 0 0)) ∧ gsA A w s (Int64.toInt32 v).toNatClampNeg ∧ (aA A (Int64.toInt32 v).toNatClampNeg = p.toNatClampNeg ∨ bA A (Int64.toInt32 v).toNatClampNeg = p.toNatClampNeg)
noncomputable def wkP (A : LA) (w s n : Int32) (f f' : Nat → Int32) : Prop := f' 0 = f 0 + coA A w s 1 n.toNatClampNeg ∧ f' 1 = f 1 + dyA A w s n.toNatClampNeg ∧ f' 2 = f 2 ||| ((1 : Int32) <<< (A 0 n.toNatClampNeg 5 &&& 31)) ∧ f' 3 = oeF (A 0 n.toNatClampNeg 0) (A 0 n.toNatClampNeg 1) (f 3)
theorem n_of {v : Int64} {c : Int32} (hc : rg c 0 24) (h0 : (0 : Int64) ≤ v) (h1 : v < Int32.toInt64 c) : rg (Int64.toInt32 v) 0 23 ∧ Int64.toInt32 v < c := by
  have a := Int64.le_iff_toInt_le.mp h0
  have b := Int64.lt_iff_toInt_lt.mp h1
  rw [oh_l32] at b
  have z : (0 : Int64).toInt = 0 := rfl
  have := hc.2
  have e : (Int64.toInt32 v).toInt = v.toInt := by
    rw [Int64.toInt_toInt32]
    exact oh_bmod (by omega) (by omega)
  exact ⟨⟨by omega, by omega⟩, Int32.lt_iff_toInt_lt.mpr (by omega)⟩
/-- a load on its way: under way, waggon, parts, place, goal, days, roads, coin -/
abbrev TP := Nat → Int32
def absTX (c t : Nat) (C : Nat → va_E) (T : TP) : Prop := gi (C c) 7 = T 0 ∧ ga (C t) 5 = T 1 ∧ ga (C t) 6 = T 2 ∧ ga (C t) 0 = T 3 ∧ ga (C t) 1 = T 4 ∧ ga (C t) 3 = T 5 ∧ ga (C t) 4 = T 6 ∧ ga (C t) 2 = T 7
def absTM (C : Nat → va_E) (T : TP) : Prop := (∀ j, j < 7 → ga (C 14) j = T j) ∧ gi (C 0) 19 = T 7
noncomputable def stU (A : LA) (T : TP) (r : Int32) : TP
  | 3 => oeF (A 0 r.toNatClampNeg 0) (A 0 r.toNatClampNeg 1) (T 3)
  | 5 => T 5 + dyA A (T 1) (T 2) r.toNatClampNeg
  | 6 => T 6 + 1
  | 7 => T 7 + coA A (T 1) (T 2) 1 r.toNatClampNeg
  | j => T j
def stpA (A : LA) (T : TP) (r : Int32) (B : LA) (U : TP) : Prop := ((T 0 = 0 ∨ T 3 = T 4) ∧ r = -5 ∧ B = A ∧ U = T) ∨ (¬ (T 0 = 0 ∨ T 3 = T 4) ∧ frA A (T 1) (T 2) (T 3) (T 4) (-1) ∧ r = -5 ∧ B = A ∧ U = T) ∨ (¬ (T 0 = 0 ∨ T 3 = T 4) ∧ ¬ r = -1 ∧ frA A (T 1) (T 2) (T 3) (T 4) r ∧ B = spU A (T 1) (T 2) r.toNatClampNeg (n1A A) ∧ U = stU A T r)
theorem stpA_u {A : LA} (h : okA A) {T : TP} {r r' : Int32} {B B' : LA} {U U' : TP} (h1 : stpA A T r B U) (h2 : stpA A T r' B' U') : r = r' ∧ B = B' ∧ U = U' := by
  rcases h1 with ⟨c1, e1, e2, e3⟩ | ⟨c1, f1, e1, e2, e3⟩ | ⟨c1, n1, f1, e2, e3⟩ <;> rcases h2 with ⟨d1, g1, g2, g3⟩ | ⟨d1, k1, g1, g2, g3⟩ | ⟨d1, m1, k1, g2, g3⟩
  · exact ⟨by rw [e1, g1], by rw [e2, g2], by rw [e3, g3]⟩
  · exact absurd c1 d1
  · exact absurd c1 d1
  · exact absurd d1 c1
  · exact ⟨by rw [e1, g1], by rw [e2, g2], by rw [e3, g3]⟩
  · exact absurd (frA_u h k1 f1) m1
  · exact absurd d1 c1
  · exact absurd (frA_u h f1 k1) n1
  · have e := frA_u h f1 k1
    subst e
    exact ⟨rfl, by rw [e2, g2], by rw [e3, g3]⟩
theorem i6432 (x : Int32) : Int64.toInt32 (Int32.toInt64 x) = x := by
  refine Int32.toInt_inj.mp ?_
  rw [Int64.toInt_toInt32, oh_l32]
  have a := Int32.le_toInt x
  have b := Int32.toInt_lt x
  exact oh_bmod (by omega) (by omega)
theorem wk_in {x c : Int32} (h0 : rg x 0 23) (h1 : x < c) : (0 : Int64) ≤ Int32.toInt64 x ∧ Int32.toInt64 x < Int32.toInt64 c := by
  constructor
  · exact Int64.le_iff_toInt_le.mpr (by rw [oh_l32]; exact h0.1)
  · exact Int64.lt_iff_toInt_lt.mpr (by rw [oh_l32, oh_l32]; exact Int32.lt_iff_toInt_lt.mp h1)
/-- what goAlong makes of the way's row -/
noncomputable def gaP (A : LA) (w s n : Int32) (f f' : Nat → Int32) : Prop := f' 0 = oeF (A 0 n.toNatClampNeg 0) (A 0 n.toNatClampNeg 1) (f 0) ∧ f' 1 = f 1 ∧ f' 2 = f 2 + coA A w s 1 n.toNatClampNeg ∧ f' 3 = f 3 + dyA A w s n.toNatClampNeg ∧ f' 4 = f 4 + 1 ∧ f' 5 = f 5 ∧ f' 6 = f 6
theorem st_T {C u : Nat → va_E} {A : LA} {T : TP} {r : Int32} (h : absTX 1 16 C T) (e7 : gi (u 1) 7 = gi (C 1) 7) (k : gaP A (T 1) (T 2) r (ga (C 16)) (ga (u 16))) : absTX 1 16 u (stU A T r) := by
  obtain ⟨t0, t1, t2, t3, t4, t5, t6, t7⟩ := h
  obtain ⟨k0, k1, k2, k3, k4, k5, k6⟩ := k
  rw [t3] at k0
  rw [t4] at k1
  rw [t7] at k2
  rw [t5] at k3
  rw [t6] at k4
  rw [t1] at k5
  rw [t2] at k6
  exact ⟨e7.trans t0, k5, k6, k0, k1, k3, k4, k2⟩
theorem absTX_eq {c t : Nat} {C u : Nat → va_E} {T : TP} (h : absTX c t C T) (e1 : gi (u c) 7 = gi (C c) 7) (e2 : u t = C t) : absTX c t u T := by
  unfold absTX
  rw [e1, e2]
  exact h

set_option maxHeartbeats 4000000 in
set_option maxRecDepth 100000 in
theorem e2_X5_standProps (l : Launch) (D : va_G) (E : Nat → ClassId) (G : Nat → Nat) (sz : Nat) (a : Nat → Nat) (C : Nat → va_E) (hT : TyX a E C) (x1 : Int32) : Met l yX5_standProps (oh_w yX5_standProps cX5_standProps 3 none) ({ frames := 3, cells := 0, slots := 0, locals := 75 }) (oh_Pm D E G [.ref (a 3), .int x1] (oh_W 35 a C) sz) (va_Qv (fun (u : Nat → va_E) => TyX a E u ∧ fr [(12, 13)] [] C u ∧ (∀ (A : LA) (w s : Int32), absX 10 C A → okA A → pkX C A w s → rg x1 0 23 → absX 10 u (spU A w s x1.toNatClampNeg (n1A A)))) (oh_B D (va_A (oh_W 35 a C) sz) (fun u => oh_W 35 a u)) (va_A (oh_W 35 a C) sz)) 0 0 (va_A (oh_W 35 a C) sz) := by
  refine Met.ofW (cc := cX5_standProps) (maxL := 3) (ret := none) (by decide) rfl ?_
  intro p e s m args below meth c s₁ B hml hv
  obtain ⟨rfl, hsz, hP, hK, hD0, hG⟩ := hv
  have hx := B.exec
  have hb := B.bytes
  have hr := B.returns
  have hts := atoms_spec (ws := (oh_w yX5_standProps cX5_standProps 3 none)) B.pre
  have htg : ∀ w ∈ oh_t, w.before _ s = true := fun w h => hts w (List.mem_cons_of_mem _ h)
  have hown : s.vm.findClass RX5 = some m.cls := findClass_of_methodNamed B.named
  have hlocks := B.notSynchronized
  have hT0 := hT
  subst hsz
  have hD := hD0.self (sz := s.heap.size)
  generalize hAe : va_A (oh_W 35 a C) s.heap.size = A at hD hG ⊢
  have hA : ∀ q : Nat, s.heap.size ≤ q → A q := fun q h => by rw [← hAe]; exact Or.inr h
  have hS : va_S A s.heap s.heap [] := va_S.rf
  have hF : fr [(12, 13)] [] C C := fr_rf
  have hl := lv_entry ([.ref (a 3), .int x1]) (n := 3) (Nat.le_of_ble_eq_true rfl)
  rw [lg_entry_eq]
  generalize (lg_sl ([.ref (a 3), .int x1]) ++ List.replicate (3 - (lg_sl ([.ref (a 3), .int x1])).length) Slot.unset).toArray = ls at hl ⊢
  have hl : lv_has ls 3 [(0, .ref (a 3)), (1, .int x1)] := hl
  refine oh_genQ (fun Q hQ => ?_)
  refine lv_iconst (v := 0) hx hb dX5_standProps_0 (by decide) ?_
  refine lv_istore_n (lv' := [(2, .int 0), (0, .ref (a 3)), (1, .int x1)]) hx hb dX5_standProps_1 rfl hl (by decide) rfl (fun ls hl => ?_)
  have L_2 : ∀ (d : Nat) (K2 : Nat → va_E) (z2_2 : Int32) (H : Heap) (locs : List Loc) (ls : Array Slot), (16 - z2_2.toInt).toNat = d → rg z2_2 0 16 → (∀ (A : LA) (w s : Int32), absX 10 C A → okA A → pkX C A w s → rg x1 0 23 → absX 10 K2 (spU A w s x1.toNatClampNeg z2_2.toNatClampNeg)) → (z2_2.toInt ≤ (ga (C 10) ((1 : Int32)).toNatClampNeg).toInt) → TyX a E K2 → fr [(12, 13)] [] C K2 → fr [(12, 13)] [] C K2 → va_P D vwCl (oh_W 35 a K2) H → va_D A (oh_W 35 a K2) → va_S A s.heap H locs → lv_has ls 3 [(2, .int z2_2), (0, .ref (a 3)), (1, .int x1)] → W p l e ({ frames := 3, cells := 0, slots := 0, locals := 75 }) s m (([.ref (a 3), .int x1] : List Value).toArray) below meth c H locs 0 0 Q (F0 m 2 ls []) := by
    intro d
    induction d using Nat.strongRecOn with
    | ind d ih_2 =>
    intro K2 z2_2 H locs ls hd_2 hz2_2 hx_2 hy_2 hT hF hLF_2 hP hD hS hl
    have t_1 := hT
    refine lv_iload_n hx hb dX5_standProps_2 rfl (lv_at hl 0 rfl) ?_
    refine lv_aload_n hx hb dX5_standProps_3 rfl (lv_at hl 1 rfl) ?_
    refine va_get (D := D) (ci := 5) (v := .ref (a 1)) (C := RX5) (T := TX5) (N := 7) hx hb htg ig_5 hown hK hP 3 (oh_wg (by decide) (sX_3 hT)) rfl 0 (by decide) (htg _ q_167) (fun _ h9 => h9) rfl dX5_standProps_4 ?_
    refine va_get (D := D) (ci := 0) (v := .ref (a 10)) (C := RX0) (T := TX0) (N := 8) hx hb htg ig_0 hown hK hP 1 (oh_wg (by decide) (sX_1 hT)) rfl 0 (by decide) (htg _ q_99) (fun _ h9 => h9) rfl dX5_standProps_7 ?_
    refine lv_iconst (v := 1) hx hb dX5_standProps_10 (by decide) ?_
    refine th_iald hx hb hK hP 10 (by decide) (Eq.trans (hLF_2.1 10 rfl (by decide)) (sX_10 hT0)) (rg_in (rg_c (v := 1) (lo := 1) (hi := 1) (by decide)) (by decide)) dX5_standProps_11 ?_
    refine lv_icmp_ge (tgt := 61) hx hb dX5_standProps_12 (by decide) (fun (c_2 : (ga (C 10) ((1 : Int32)).toNatClampNeg) ≤ z2_2) => ?_) (fun (c_2 : ¬ ((ga (C 10) ((1 : Int32)).toNatClampNeg) ≤ z2_2)) => ?_)
    · rw [hQ]
      exact W.vret hx hb hr (fun t ht hW => ⟨⟨K2, rfl, ⟨hT, hF, (fun A w s hA hok hp hi => by have h7 := hx_2 A w s hA hok hp hi; rw [n1_of hA c_2 hy_2] at h7; exact h7)⟩, ⟨by rw [ht]; exact hP, hD⟩⟩, hS.F ht⟩) hS.2.2 dX5_standProps_61
    · refine lv_aload_n hx hb dX5_standProps_15 rfl (lv_at hl 1 rfl) ?_
      refine va_get (D := D) (ci := 5) (v := .ref (a 1)) (C := RX5) (T := TX5) (N := 7) hx hb htg ig_5 hown hK hP 3 (oh_wg (by decide) (sX_3 hT)) rfl 0 (by decide) (htg _ q_167) (fun _ h9 => h9) rfl dX5_standProps_16 ?_
      refine lv_iload_n hx hb dX5_standProps_19 rfl (lv_at hl 0 rfl) ?_
      refine lv_iconst (v := 0) hx hb dX5_standProps_20 (by decide) ?_
      refine tq_V (As := [.int z2_2, .int 0]) (rest := []) (ws := (oh_W 35 a K2)) ⟨hx, hb, hml, hown, htg⟩ (c_X0_ofBridge l D E G a K2 hT z2_2 (0 : Int32) (rg_w (rn_ltu (u' := 15) (Int32.not_le.mp c_2) hz2_2 (tA_rdc (lo := 0) (hi := 16) (tX_10 hT0) (rg_in (rg_c (v := 1) (lo := 1) (hi := 1) (by decide)) (by decide)) (show _ = 1 by decide) (by decide)) (by decide)) (by decide)) (rg_w (rg_c (v := 0) (lo := 0) (hi := 0) (by decide)) (by decide))) (cwV 2 htg (oh_gV q_756 q_385 q_386 q_67 q_387) rfl rfl rfl pdVX0_ofBridge ⟨Nat.le_of_ble_eq_true rfl, Nat.le_of_ble_eq_true rfl⟩) hK hP hG hS (va_recv hK hP (ci := 0) (q0 := 1) rfl (oh_wg (by decide) (sX_1 hT))) rfl hl.1 rfl (Nat.le_of_ble_eq_true rfl) dX5_standProps_21 ⟨Nat.le_of_ble_eq_true rfl, Nat.le_of_ble_eq_true rfl⟩ (fun r_3 hq_4 => ?_)
      subst hq_4
      refine lv_iload_n hx hb dX5_standProps_24 rfl (lv_at hl 2 rfl) ?_
      refine lv_icmp_ne (tgt := 55) hx hb dX5_standProps_25 (by decide) (fun (c_5 : ¬ ((ga (K2 12) ((z2_2 * 10) + 0).toNatClampNeg) = x1)) => ?_) (fun (c_5 : (ga (K2 12) ((z2_2 * 10) + 0).toNatClampNeg) = x1) => ?_)
      · refine lv_iinc (v := z2_2 + 1) (lv' := [(2, .int (z2_2 + 1)), (0, .ref (a 3)), (1, .int x1)]) hx hb dX5_standProps_55 hl (k := 0) rfl (by rfl) (by decide) rfl (fun ls hl => ?_)
        refine lv_goto (tgt := 2) hx hb dX5_standProps_58 (by decide) ?_
        exact ih_2 _ (hd_2 ▸ mu_up 16 (rn_ltu (u' := 15) (Int32.not_le.mp c_2) hz2_2 (tA_rdc (lo := 0) (hi := 16) (tX_10 hT0) (rg_in (rg_c (v := 1) (lo := 1) (hi := 1) (by decide)) (by decide)) (show _ = 1 by decide) (by decide)) (by decide)) (by decide)) K2 (z2_2 + 1) _ _ ls rfl (rg_w (rg_add (lo := 1) (hi := 16) (rn_ltu (u' := 15) (Int32.not_le.mp c_2) hz2_2 (tA_rdc (lo := 0) (hi := 16) (tX_10 hT0) (rg_in (rg_c (v := 1) (lo := 1) (hi := 1) (by decide)) (by decide)) (show _ = 1 by decide) (by decide)) (by decide)) (rg_c (v := 1) (lo := 1) (hi := 1) (by decide)) (by decide)) (by decide)) (fun A w s hA hok hp hi => by have iz : rg z2_2 0 15 := (rg_w (lo := 0) (hi := 15) (rn_ltu (u' := 15) (Int32.not_le.mp c_2) hz2_2 (tA_rdc (lo := 0) (hi := 16) (tX_10 hT0) (rg_in (rg_c (v := 1) (lo := 1) (hi := 1) (by decide)) (by decide)) (show _ = 1 by decide) (by decide)) (by decide)) (by decide)); have hK : absX 10 K2 (spU A w s x1.toNatClampNeg z2_2.toNatClampNeg) := hx_2 A w s hA hok hp hi; have hz0 : z2_2 < A 5 0 1 := oh_lte (Int32.not_le.mp c_2) (hA.1 1 (by decide)); have hz1 : z2_2 < (spU A w s x1.toNatClampNeg z2_2.toNatClampNeg) 5 0 1 := (by rw [spU_o (by omega)]; exact hz0); have cr : ga (K2 12) ((z2_2 * 10) + 0).toNatClampNeg = A 1 z2_2.toNatClampNeg 0 := Eq.trans (bcX hK iz hz1 ⟨by decide, by decide⟩) (spU_o (show ¬ ((1 : Nat) = 1 ∧ ((0 : Int32)).toNatClampNeg = 7) by decide)); have hv := hok.2.2.2.1 z2_2.toNatClampNeg (by rw [oh_nat iz (by decide)]; exact Int32.lt_iff_toInt_lt.mp hz0); have er := rdN hv.1 hi; rw [(show (z2_2 + 1).toNatClampNeg = z2_2.toNatClampNeg + 1 from z_s15 iz), spU_n (fun q => c_5 (Eq.trans cr (er.mp q.1)))]; exact hK) (by have h7 := Int32.lt_iff_toInt_lt.mp (Int32.not_le.mp c_2); have h8 : (z2_2 + 1).toInt = z2_2.toInt + 1 := oh_incr (rn_ltu (u' := 15) (Int32.not_le.mp c_2) hz2_2 (tA_rdc (lo := 0) (hi := 16) (tX_10 hT0) (rg_in (rg_c (v := 1) (lo := 1) (hi := 1) (by decide)) (by decide)) (show _ = 1 by decide) (by decide)) (by decide)) (by decide); omega) hT hF hLF_2 hP hD hS (lv_sub hl [0, 1, 2] rfl)
      · refine lv_aload_n hx hb dX5_standProps_28 rfl (lv_at hl 1 rfl) ?_
        refine va_get (D := D) (ci := 5) (v := .ref (a 9)) (C := RX5) (T := TX5) (N := 7) hx hb htg ig_5 hown hK hP 3 (oh_wg (by decide) (sX_3 hT)) rfl 1 (by decide) (htg _ q_168) (fun _ h9 => h9) rfl dX5_standProps_29 ?_
        refine lv_aload_n hx hb dX5_standProps_32 rfl (lv_at hl 1 rfl) ?_
        refine va_get (D := D) (ci := 5) (v := .ref (a 1)) (C := RX5) (T := TX5) (N := 7) hx hb htg ig_5 hown hK hP 3 (oh_wg (by decide) (sX_3 hT)) rfl 0 (by decide) (htg _ q_167) (fun _ h9 => h9) rfl dX5_standProps_33 ?_
        refine lv_iload_n hx hb dX5_standProps_36 rfl (lv_at hl 0 rfl) ?_
        refine tq_V (As := [.ref (a 1), .int z2_2]) (rest := []) (ws := (oh_W 35 a K2)) ⟨hx, hb, hml, hown, htg⟩ (e_X1_needsOf l D E G a K2 hT z2_2 (rg_w (rn_ltu (u' := 15) (Int32.not_le.mp c_2) hz2_2 (tA_rdc (lo := 0) (hi := 16) (tX_10 hT0) (rg_in (rg_c (v := 1) (lo := 1) (hi := 1) (by decide)) (by decide)) (show _ = 1 by decide) (by decide)) (by decide)) (by decide))) (cwV 2 htg (oh_gV q_757 q_738 q_739 q_69 q_740) rfl rfl rfl pdVX1_needsOf ⟨Nat.le_of_ble_eq_true rfl, Nat.le_of_ble_eq_true rfl⟩) hK hP hG hS (va_recv hK hP (ci := 1) (q0 := 9) rfl (oh_wg (by decide) (sX_9 hT))) rfl hl.1 rfl (Nat.le_of_ble_eq_true rfl) dX5_standProps_37 ⟨Nat.le_of_ble_eq_true rfl, Nat.le_of_ble_eq_true rfl⟩ (fun r_6 hq_7 => ?_)
        refine lv_iconst (v := 1) hx hb dX5_standProps_40 (by decide) ?_
        refine lv_icmp_ne (tgt := 55) hx hb dX5_standProps_41 (by decide) (fun (c_8 : ¬ (r_6 = 1)) => ?_) (fun (c_8 : r_6 = 1) => ?_)
        · refine lv_iinc (v := z2_2 + 1) (lv' := [(2, .int (z2_2 + 1)), (0, .ref (a 3)), (1, .int x1)]) hx hb dX5_standProps_55 hl (k := 0) rfl (by rfl) (by decide) rfl (fun ls hl => ?_)
          refine lv_goto (tgt := 2) hx hb dX5_standProps_58 (by decide) ?_
          exact ih_2 _ (hd_2 ▸ mu_up 16 (rn_ltu (u' := 15) (Int32.not_le.mp c_2) hz2_2 (tA_rdc (lo := 0) (hi := 16) (tX_10 hT0) (rg_in (rg_c (v := 1) (lo := 1) (hi := 1) (by decide)) (by decide)) (show _ = 1 by decide) (by decide)) (by decide)) (by decide)) K2 (z2_2 + 1) _ _ ls rfl (rg_w (rg_add (lo := 1) (hi := 16) (rn_ltu (u' := 15) (Int32.not_le.mp c_2) hz2_2 (tA_rdc (lo := 0) (hi := 16) (tX_10 hT0) (rg_in (rg_c (v := 1) (lo := 1) (hi := 1) (by decide)) (by decide)) (show _ = 1 by decide) (by decide)) (by decide)) (rg_c (v := 1) (lo := 1) (hi := 1) (by decide)) (by decide)) (by decide)) (fun A w s hA hok hp hi => by have iz : rg z2_2 0 15 := (rg_w (lo := 0) (hi := 15) (rn_ltu (u' := 15) (Int32.not_le.mp c_2) hz2_2 (tA_rdc (lo := 0) (hi := 16) (tX_10 hT0) (rg_in (rg_c (v := 1) (lo := 1) (hi := 1) (by decide)) (by decide)) (show _ = 1 by decide) (by decide)) (by decide)) (by decide)); have hK : absX 10 K2 (spU A w s x1.toNatClampNeg z2_2.toNatClampNeg) := hx_2 A w s hA hok hp hi; have hz0 : z2_2 < A 5 0 1 := oh_lte (Int32.not_le.mp c_2) (hA.1 1 (by decide)); have hz1 : z2_2 < (spU A w s x1.toNatClampNeg z2_2.toNatClampNeg) 5 0 1 := (by rw [spU_o (by omega)]; exact hz0); have cr : ga (K2 12) ((z2_2 * 10) + 0).toNatClampNeg = A 1 z2_2.toNatClampNeg 0 := Eq.trans (bcX hK iz hz1 ⟨by decide, by decide⟩) (spU_o (show ¬ ((1 : Nat) = 1 ∧ ((0 : Int32)).toNatClampNeg = 7) by decide)); have hv := hok.2.2.2.1 z2_2.toNatClampNeg (by rw [oh_nat iz (by decide)]; exact Int32.lt_iff_toInt_lt.mp hz0); have er := rdN hv.1 hi; have en : r_6 = ndA A w s z2_2.toNatClampNeg := Eq.trans (ndX hK (pkX_U (pkX_eq hp (hLF_2.1 9 rfl (by decide)))) iz hz1 hq_7) (nd_U (Nat.le_refl _)); rw [(show (z2_2 + 1).toNatClampNeg = z2_2.toNatClampNeg + 1 from z_s15 iz), spU_n (fun q => c_8 (Eq.trans en q.2))]; exact hK) (by have h7 := Int32.lt_iff_toInt_lt.mp (Int32.not_le.mp c_2); have h8 : (z2_2 + 1).toInt = z2_2.toInt + 1 := oh_incr (rn_ltu (u' := 15) (Int32.not_le.mp c_2) hz2_2 (tA_rdc (lo := 0) (hi := 16) (tX_10 hT0) (rg_in (rg_c (v := 1) (lo := 1) (hi := 1) (by decide)) (by decide)) (show _ = 1 by decide) (by decide)) (by decide)) (by decide); omega) hT hF hLF_2 hP hD hS (lv_sub hl [0, 1, 2] rfl)
        · refine lv_aload_n hx hb dX5_standProps_44 rfl (lv_at hl 1 rfl) ?_
          refine va_get (D := D) (ci := 5) (v := .ref (a 1)) (C := RX5) (T := TX5) (N := 7) hx hb htg ig_5 hown hK hP 3 (oh_wg (by decide) (sX_3 hT)) rfl 0 (by decide) (htg _ q_167) (fun _ h9 => h9) rfl dX5_standProps_45 ?_
          refine lv_iload_n hx hb dX5_standProps_48 rfl (lv_at hl 0 rfl) ?_
          refine lv_bipush (v := 7) hx hb dX5_standProps_49 (by decide) ?_
          refine lv_iconst (v := 1) hx hb dX5_standProps_51 (by decide) ?_
          refine tm_Vv (As := [.int z2_2, .int 7, .int 1]) (rest := []) ⟨hx, hb, hml, hown, htg⟩ (f_X0_putBridgeColumn l D E G _ a K2 hT z2_2 (7 : Int32) (1 : Int32) (rg_w (rn_ltu (u' := 15) (Int32.not_le.mp c_2) hz2_2 (tA_rdc (lo := 0) (hi := 16) (tX_10 hT0) (rg_in (rg_c (v := 1) (lo := 1) (hi := 1) (by decide)) (by decide)) (show _ = 1 by decide) (by decide)) (by decide)) (by decide)) (rg_w (rg_c (v := 7) (lo := 7) (hi := 7) (by decide)) (by decide))) (cwV 3 htg (oh_gV q_928 q_445 q_446 q_67 q_447) rfl rfl rfl pdVX0_putBridgeColumn ⟨Nat.le_of_ble_eq_true rfl, Nat.le_of_ble_eq_true rfl⟩) hK hP hD hG hS hA (va_recv hK hP (ci := 0) (q0 := 1) rfl (oh_wg (by decide) (sX_1 hT))) rfl hl.1 rfl (Nat.le_of_ble_eq_true rfl) dX5_standProps_52 ⟨Nat.le_of_ble_eq_true rfl, Nat.le_of_ble_eq_true rfl⟩ (fun C_10 H locs hq_11 hP hD hS => ?_)
          obtain ⟨hT, f_12, hq_11⟩ := hq_11
          have hF := fr_tr hF f_12 (by decide) (by decide)
          refine W.widen (k := 0) (n := 0) (Nat.le_refl _) (Nat.le_refl _) ?_
          have t_13 := hT
          refine lv_iinc (v := z2_2 + 1) (lv' := [(2, .int (z2_2 + 1)), (0, .ref (a 3)), (1, .int x1)]) hx hb dX5_standProps_55 hl (k := 0) rfl (by rfl) (by decide) rfl (fun ls hl => ?_)
          refine lv_goto (tgt := 2) hx hb dX5_standProps_58 (by decide) ?_
          exact ih_2 _ (hd_2 ▸ mu_up 16 (rn_ltu (u' := 15) (Int32.not_le.mp c_2) hz2_2 (tA_rdc (lo := 0) (hi := 16) (tX_10 hT0) (rg_in (rg_c (v := 1) (lo := 1) (hi := 1) (by decide)) (by decide)) (show _ = 1 by decide) (by decide)) (by decide)) (by decide)) C_10 (z2_2 + 1) _ _ ls rfl (rg_w (rg_add (lo := 1) (hi := 16) (rn_ltu (u' := 15) (Int32.not_le.mp c_2) hz2_2 (tA_rdc (lo := 0) (hi := 16) (tX_10 hT0) (rg_in (rg_c (v := 1) (lo := 1) (hi := 1) (by decide)) (by decide)) (show _ = 1 by decide) (by decide)) (by decide)) (rg_c (v := 1) (lo := 1) (hi := 1) (by decide)) (by decide)) (by decide)) (fun A w s hA hok hp hi => by have iz : rg z2_2 0 15 := (rg_w (lo := 0) (hi := 15) (rn_ltu (u' := 15) (Int32.not_le.mp c_2) hz2_2 (tA_rdc (lo := 0) (hi := 16) (tX_10 hT0) (rg_in (rg_c (v := 1) (lo := 1) (hi := 1) (by decide)) (by decide)) (show _ = 1 by decide) (by decide)) (by decide)) (by decide)); have hK : absX 10 K2 (spU A w s x1.toNatClampNeg z2_2.toNatClampNeg) := hx_2 A w s hA hok hp hi; have hz0 : z2_2 < A 5 0 1 := oh_lte (Int32.not_le.mp c_2) (hA.1 1 (by decide)); have hz1 : z2_2 < (spU A w s x1.toNatClampNeg z2_2.toNatClampNeg) 5 0 1 := (by rw [spU_o (by omega)]; exact hz0); have cr : ga (K2 12) ((z2_2 * 10) + 0).toNatClampNeg = A 1 z2_2.toNatClampNeg 0 := Eq.trans (bcX hK iz hz1 ⟨by decide, by decide⟩) (spU_o (show ¬ ((1 : Nat) = 1 ∧ ((0 : Int32)).toNatClampNeg = 7) by decide)); have hv := hok.2.2.2.1 z2_2.toNatClampNeg (by rw [oh_nat iz (by decide)]; exact Int32.lt_iff_toInt_lt.mp hz0); have er := rdN hv.1 hi; have en : r_6 = ndA A w s z2_2.toNatClampNeg := Eq.trans (ndX hK (pkX_U (pkX_eq hp (hLF_2.1 9 rfl (by decide)))) iz hz1 hq_7) (nd_U (Nat.le_refl _)); rw [(show (z2_2 + 1).toNatClampNeg = z2_2.toNatClampNeg + 1 from z_s15 iz), spU_y ⟨er.mpr (Eq.trans cr.symm c_5), Eq.trans en.symm c_8⟩]; exact hq_11.2 _ hK) (by have h7 := Int32.lt_iff_toInt_lt.mp (Int32.not_le.mp c_2); have h8 : (z2_2 + 1).toInt = z2_2.toInt + 1 := oh_incr (rn_ltu (u' := 15) (Int32.not_le.mp c_2) hz2_2 (tA_rdc (lo := 0) (hi := 16) (tX_10 hT0) (rg_in (rg_c (v := 1) (lo := 1) (hi := 1) (by decide)) (by decide)) (show _ = 1 by decide) (by decide)) (by decide)) (by decide); omega) hT hF (fr_tr hLF_2 f_12 (by decide) (by decide)) hP hD hS (lv_sub hl [0, 1, 2] rfl)
  exact L_2 _ C 0 _ _ ls rfl (rg_w (rg_c (v := 0) (lo := 0) (hi := 0) (by decide)) (by decide)) (fun A w s hA hok hp hi => by rw [show spU A w s x1.toNatClampNeg (0 : Int32).toNatClampNeg = A from spU_0 A w s _]; exact hA) (cntX 1 hT0 (by decide)).1 hT hF fr_rf hP hD hS (lv_sub hl [0, 1, 2] rfl)

set_option maxHeartbeats 4000000 in
set_option maxRecDepth 100000 in
theorem e_X5_setOut (l : Launch) (D : va_G) (E : Nat → ClassId) (G : Nat → Nat) (sz : Nat) (a : Nat → Nat) (C : Nat → va_E) (hT : TyX a E C) (x1 : Int32) (hx1 : rg x1 0 15) : Met l yX5_setOut (oh_w yX5_setOut cX5_setOut 2 none) ({ frames := 0, cells := 0, slots := 0, locals := 0 }) (oh_Pm D E G [.ref (a 3), .int x1] (oh_W 35 a C) sz) (va_Qv (fun (u : Nat → va_E) => TyX a E u ∧ fr [(28, 29)] [] C u ∧ (ga (u 28) ((0 : Int32)).toNatClampNeg = 0) ∧ (ga (u 28) ((1 : Int32)).toNatClampNeg = 0) ∧ (ga (u 28) ((2 : Int32)).toNatClampNeg = 0) ∧ (ga (u 28) ((3 : Int32)).toNatClampNeg = x1)) (oh_B D (va_A (oh_W 35 a C) sz) (fun u => oh_W 35 a u)) (va_A (oh_W 35 a C) sz)) 0 0 (va_A (oh_W 35 a C) sz) := by
  refine Met.ofW (cc := cX5_setOut) (maxL := 2) (ret := none) (by decide) rfl ?_
  intro p e s m args below meth c s₁ B hml hv
  obtain ⟨rfl, hsz, hP, hK, hD0, hG⟩ := hv
  have hx := B.exec
  have hb := B.bytes
  have hr := B.returns
  have hts := atoms_spec (ws := (oh_w yX5_setOut cX5_setOut 2 none)) B.pre
  have htg : ∀ w ∈ oh_t, w.before _ s = true := fun w h => hts w (List.mem_cons_of_mem _ h)
  have hown : s.vm.findClass RX5 = some m.cls := findClass_of_methodNamed B.named
  have hlocks := B.notSynchronized
  have hT0 := hT
  subst hsz
  have hD := hD0.self (sz := s.heap.size)
  generalize hAe : va_A (oh_W 35 a C) s.heap.size = A at hD hG ⊢
  have hA : ∀ q : Nat, s.heap.size ≤ q → A q := fun q h => by rw [← hAe]; exact Or.inr h
  have hS : va_S A s.heap s.heap [] := va_S.rf
  have hF : fr [(28, 29)] [] C C := fr_rf
  have hl := lv_entry ([.ref (a 3), .int x1]) (n := 2) (Nat.le_of_ble_eq_true rfl)
  rw [lg_entry_eq]
  generalize (lg_sl ([.ref (a 3), .int x1]) ++ List.replicate (2 - (lg_sl ([.ref (a 3), .int x1])).length) Slot.unset).toArray = ls at hl ⊢
  have hl : lv_has ls 2 [(0, .ref (a 3)), (1, .int x1)] := hl
  refine oh_genQ (fun Q hQ => ?_)
  refine lv_aload_n hx hb dX5_setOut_0 rfl (lv_at hl 0 rfl) ?_
  refine va_get (D := D) (ci := 5) (v := .ref (a 28)) (C := RX5) (T := TX5) (N := 7) hx hb htg ig_5 hown hK hP 3 (oh_wg (by decide) (sX_3 hT)) rfl 6 (by decide) (htg _ q_175) (fun _ h9 => h9) rfl dX5_setOut_1 ?_
  refine lv_iconst (v := 0) hx hb dX5_setOut_4 (by decide) ?_
  refine lv_iconst (v := 0) hx hb dX5_setOut_5 (by decide) ?_
  refine th_iast (T := TyX a E) (Rl := fr [(28, 29)] [] C) hx hb hK hP hD hS 28 (by decide) (sX_28 hT) (rg_in (rg_c (v := 0) (lo := 0) (hi := 0) (by decide)) (by decide)) (hT.up 28 (tA_upd (tX_28 hT) (tA_stc (show _ = 0 by decide) (rg_c (v := 0) (lo := 0) (hi := 0) (by decide)) (by decide)))) (fr_st hF (by decide) (by decide)) dX5_setOut_6 (fun C_1 H locs e_2 hT hF hP hD hS => ?_)
  have t_3 := hT
  refine lv_aload_n hx hb dX5_setOut_7 rfl (lv_at hl 0 rfl) ?_
  refine va_get (D := D) (ci := 5) (v := .ref (a 28)) (C := RX5) (T := TX5) (N := 7) hx hb htg ig_5 hown hK hP 3 (oh_wg (by decide) (sX_3 hT)) rfl 6 (by decide) (htg _ q_175) (fun _ h9 => h9) rfl dX5_setOut_8 ?_
  refine lv_iconst (v := 1) hx hb dX5_setOut_11 (by decide) ?_
  refine lv_iconst (v := 0) hx hb dX5_setOut_12 (by decide) ?_
  refine th_iast (T := TyX a E) (Rl := fr [(28, 29)] [] C) hx hb hK hP hD hS 28 (by decide) (sX_28 hT) (rg_in (rg_c (v := 1) (lo := 1) (hi := 1) (by decide)) (by decide)) (hT.up 28 (tA_upd (tX_28 hT) (tA_stc (show _ = 1 by decide) (rg_c (v := 0) (lo := 0) (hi := 0) (by decide)) (by decide)))) (fr_st hF (by decide) (by decide)) dX5_setOut_13 (fun C_4 H locs e_5 hT hF hP hD hS => ?_)
  have t_6 := hT
  refine lv_aload_n hx hb dX5_setOut_14 rfl (lv_at hl 0 rfl) ?_
  refine va_get (D := D) (ci := 5) (v := .ref (a 28)) (C := RX5) (T := TX5) (N := 7) hx hb htg ig_5 hown hK hP 3 (oh_wg (by decide) (sX_3 hT)) rfl 6 (by decide) (htg _ q_175) (fun _ h9 => h9) rfl dX5_setOut_15 ?_
  refine lv_iconst (v := 2) hx hb dX5_setOut_18 (by decide) ?_
  refine lv_iconst (v := 0) hx hb dX5_setOut_19 (by decide) ?_
  refine th_iast (T := TyX a E) (Rl := fr [(28, 29)] [] C) hx hb hK hP hD hS 28 (by decide) (sX_28 hT) (rg_in (rg_c (v := 2) (lo := 2) (hi := 2) (by decide)) (by decide)) (hT.up 28 (tA_upd (tX_28 hT) (tA_stc (show _ = 2 by decide) (rg_c (v := 0) (lo := 0) (hi := 0) (by decide)) (by decide)))) (fr_st hF (by decide) (by decide)) dX5_setOut_20 (fun C_7 H locs e_8 hT hF hP hD hS => ?_)
  have t_9 := hT
  refine lv_aload_n hx hb dX5_setOut_21 rfl (lv_at hl 0 rfl) ?_
  refine va_get (D := D) (ci := 5) (v := .ref (a 28)) (C := RX5) (T := TX5) (N := 7) hx hb htg ig_5 hown hK hP 3 (oh_wg (by decide) (sX_3 hT)) rfl 6 (by decide) (htg _ q_175) (fun _ h9 => h9) rfl dX5_setOut_22 ?_
  refine lv_iconst (v := 3) hx hb dX5_setOut_25 (by decide) ?_
  refine lv_iload_n hx hb dX5_setOut_26 rfl (lv_at hl 1 rfl) ?_
  refine th_iast (T := TyX a E) (Rl := fr [(28, 29)] [] C) hx hb hK hP hD hS 28 (by decide) (sX_28 hT) (rg_in (rg_c (v := 3) (lo := 3) (hi := 3) (by decide)) (by decide)) (hT.up 28 (tA_upd (tX_28 hT) (tA_stc (show _ = 3 by decide) hx1 (by decide)))) (fr_st hF (by decide) (by decide)) dX5_setOut_27 (fun C_10 H locs e_11 hT hF hP hD hS => ?_)
  have t_12 := hT
  rw [hQ]
  exact W.vret hx hb hr (fun t ht hW => ⟨⟨C_10, rfl, ⟨hT, hF, ⟨(show ga (C_10 28) ((0 : Int32)).toNatClampNeg = (0 : Int32) from (by rw [st_ga e_11, pk_un (by decide), st_ga e_8, pk_un (by decide), st_ga e_5, pk_un (by decide), st_ga e_2, pk_us])), (show ga (C_10 28) ((1 : Int32)).toNatClampNeg = (0 : Int32) from (by rw [st_ga e_11, pk_un (by decide), st_ga e_8, pk_un (by decide), st_ga e_5, pk_us])), (show ga (C_10 28) ((2 : Int32)).toNatClampNeg = (0 : Int32) from (by rw [st_ga e_11, pk_un (by decide), st_ga e_8, pk_us])), (show ga (C_10 28) ((3 : Int32)).toNatClampNeg = x1 from (by rw [st_ga e_11, pk_us]))⟩⟩, ⟨by rw [ht]; exact hP, hD⟩⟩, hS.F ht⟩) hS.2.2 dX5_setOut_28

set_option maxHeartbeats 4000000 in
set_option maxRecDepth 100000 in
theorem e_X5_walk (l : Launch) (D : va_G) (E : Nat → ClassId) (G : Nat → Nat) (sz : Nat) (a : Nat → Nat) (C : Nat → va_E) (hT : TyX a E C) (x1 : Int64) : Met l yX5_walk (oh_w yX5_walk cX5_walk 5 (some .boolean)) ({ frames := 3, cells := 0, slots := 0, locals := 65 }) (oh_Pm D E G [.ref (a 3), .long x1] (oh_W 35 a C) sz) (va_Qi (fun r (u : Nat → va_E) => TyX a E u ∧ fr [(28, 29)] [] C u ∧ (r = 0 ∨ r = 1) ∧ (∀ (A : LA) (w s : Int32), absX 10 C A → okA A → svX C A w s → (r = 1 ↔ wkOk A w s x1 (ga (C 28) ((3 : Int32)).toNatClampNeg)) ∧ (r = 1 → wkP A w s (Int64.toInt32 x1) (ga (C 28)) (ga (u 28))))) (oh_B D (va_A (oh_W 35 a C) sz) (fun u => oh_W 35 a u)) (va_A (oh_W 35 a C) sz)) 0 0 (va_A (oh_W 35 a C) sz) := by
  refine Met.ofW (cc := cX5_walk) (maxL := 5) (ret := (some .boolean)) (by decide) rfl ?_
  intro p e s m args below meth c s₁ B hml hv
  obtain ⟨rfl, hsz, hP, hK, hD0, hG⟩ := hv
  have hx := B.exec
  have hb := B.bytes
  have hr := B.returns
  have hts := atoms_spec (ws := (oh_w yX5_walk cX5_walk 5 (some .boolean))) B.pre
  have htg : ∀ w ∈ oh_t, w.before _ s = true := fun w h => hts w (List.mem_cons_of_mem _ h)
  have hown : s.vm.findClass RX5 = some m.cls := findClass_of_methodNamed B.named
  have hlocks := B.notSynchronized
  have hT0 := hT
  subst hsz
  have hD := hD0.self (sz := s.heap.size)
  generalize hAe : va_A (oh_W 35 a C) s.heap.size = A at hD hG ⊢
  have hA : ∀ q : Nat, s.heap.size ≤ q → A q := fun q h => by rw [← hAe]; exact Or.inr h
  have hS : va_S A s.heap s.heap [] := va_S.rf
  have hF : fr [(28, 29)] [] C C := fr_rf
  have hl := lv_entry ([.ref (a 3), .long x1]) (n := 5) (Nat.le_of_ble_eq_true rfl)
  rw [lg_entry_eq]
  generalize (lg_sl ([.ref (a 3), .long x1]) ++ List.replicate (5 - (lg_sl ([.ref (a 3), .long x1])).length) Slot.unset).toArray = ls at hl ⊢
  have hl : lv_has ls 5 [(0, .ref (a 3)), (1, .long x1)] := hl
  refine oh_genQ (fun Q hQ => ?_)
  refine lv_lload_n hx hb dX5_walk_0 rfl (lv_at hl 1 rfl) ?_
  refine lv_lconst (v := 0) hx hb dX5_walk_1 (by decide) ?_
  refine W.lcmp hx hb dX5_walk_2 ?_
  refine lv_if_lt (tgt := 21) hx hb dX5_walk_3 (by decide) (fun (c_1 : (lg_cmp x1 0) < 0) => ?_) (fun (c_1 : ¬ ((lg_cmp x1 0) < 0)) => ?_)
  · refine lv_iconst (v := 0) hx hb dX5_walk_21 (by decide) ?_
    rw [hQ]
    exact W.zret (v := 0) (ty := .boolean) hx hb hr (by decide) (fun t ht hW => ⟨⟨0, C, rfl, ⟨hT, hF, ⟨(Or.inl rfl), (fun A w s hA hok hs => ⟨⟨fun h8 => absurd h8 (by decide), fun h8 => absurd h8 (fun q => absurd q.1.1 (Int64.not_le.mpr (oh_lc_lt c_1)))⟩, fun h8 => absurd h8 (by decide)⟩)⟩⟩, ⟨by rw [ht]; exact hP, hD⟩⟩, hS.F ht⟩) hS.2.2 dX5_walk_22
  · refine lv_lload_n hx hb dX5_walk_6 rfl (lv_at hl 1 rfl) ?_
    refine lv_aload_n hx hb dX5_walk_7 rfl (lv_at hl 0 rfl) ?_
    refine va_get (D := D) (ci := 5) (v := .ref (a 1)) (C := RX5) (T := TX5) (N := 7) hx hb htg ig_5 hown hK hP 3 (oh_wg (by decide) (sX_3 hT)) rfl 0 (by decide) (htg _ q_167) (fun _ h9 => h9) rfl dX5_walk_8 ?_
    refine va_get (D := D) (ci := 0) (v := .ref (a 10)) (C := RX0) (T := TX0) (N := 8) hx hb htg ig_0 hown hK hP 1 (oh_wg (by decide) (sX_1 hT)) rfl 0 (by decide) (htg _ q_99) (fun _ h9 => h9) rfl dX5_walk_11 ?_
    refine lv_iconst (v := 0) hx hb dX5_walk_14 (by decide) ?_
    refine th_iald hx hb hK hP 10 (by decide) (sX_10 hT) (rg_in (rg_c (v := 0) (lo := 0) (hi := 0) (by decide)) (by decide)) dX5_walk_15 ?_
    refine lv_i2l (v := Int32.toInt64 (ga (C 10) ((0 : Int32)).toNatClampNeg)) hx hb dX5_walk_16 (by rfl) ?_
    refine W.lcmp hx hb dX5_walk_17 ?_
    refine lv_if_lt (tgt := 23) hx hb dX5_walk_18 (by decide) (fun (c_2 : (lg_cmp x1 (Int32.toInt64 (ga (C 10) ((0 : Int32)).toNatClampNeg))) < 0) => ?_) (fun (c_2 : ¬ ((lg_cmp x1 (Int32.toInt64 (ga (C 10) ((0 : Int32)).toNatClampNeg))) < 0)) => ?_)
    · refine lv_lload_n hx hb dX5_walk_23 rfl (lv_at hl 1 rfl) ?_
      refine lv_l2i (v := Int64.toInt32 x1) hx hb dX5_walk_24 rfl ?_
      refine lv_istore_n (lv' := [(3, .int (Int64.toInt32 x1)), (0, .ref (a 3)), (1, .long x1)]) hx hb dX5_walk_25 rfl hl (by decide) rfl (fun ls hl => ?_)
      refine lv_aload_n hx hb dX5_walk_26 rfl (lv_at hl 1 rfl) ?_
      refine lv_iload_n hx hb dX5_walk_27 rfl (lv_at hl 0 rfl) ?_
      refine lv_aload_n hx hb dX5_walk_28 rfl (lv_at hl 1 rfl) ?_
      refine va_get (D := D) (ci := 5) (v := .ref (a 28)) (C := RX5) (T := TX5) (N := 7) hx hb htg ig_5 hown hK hP 3 (oh_wg (by decide) (sX_3 hT)) rfl 6 (by decide) (htg _ q_175) (fun _ h9 => h9) rfl dX5_walk_29 ?_
      refine lv_iconst (v := 3) hx hb dX5_walk_32 (by decide) ?_
      refine th_iald hx hb hK hP 28 (by decide) (sX_28 hT) (rg_in (rg_c (v := 3) (lo := 3) (hi := 3) (by decide)) (by decide)) dX5_walk_33 ?_
      refine tq_V (As := [.int (Int64.toInt32 x1), .int (ga (C 28) ((3 : Int32)).toNatClampNeg)]) (rest := []) (ws := (oh_W 35 a C)) ⟨hx, hb, hml, hown, htg⟩ (e_X5_otherEnd l D E G a C hT (Int64.toInt32 x1) (ga (C 28) ((3 : Int32)).toNatClampNeg) (rg_w (rg_l2i (rnL_ltu (u' := 23) (oh_lc_lt c_2) (rnL_lel (oh_lc_nlt c_1) (rgL_c (v := 0) (lo := 0) (hi := 0) (by decide)) (rgL_any _)) (rgL_i (tA_rdc (lo := 0) (hi := 24) (tX_10 hT0) (rg_in (rg_c (v := 0) (lo := 0) (hi := 0) (by decide)) (by decide)) (show _ = 0 by decide) (by decide))) (by decide)) (by decide)) (by decide))) (cwV 2 htg (oh_gV q_846 q_848 q_25 q_68 q_849) rfl rfl rfl pdVX5_otherEnd ⟨Nat.le_of_ble_eq_true rfl, Nat.le_of_ble_eq_true rfl⟩) hK hP hG hS (va_recv hK hP (ci := 5) (q0 := 3) rfl (oh_wg (by decide) (sX_3 hT))) rfl hl.1 rfl (Nat.le_of_ble_eq_true rfl) dX5_walk_34 ⟨Nat.le_of_ble_eq_true rfl, Nat.le_of_ble_eq_true rfl⟩ (fun r_3 hq_4 => ?_)
      refine lv_istore (lv' := [(4, .int r_3), (3, .int (Int64.toInt32 x1)), (0, .ref (a 3)), (1, .long x1)]) hx hb dX5_walk_37 hl (by decide) rfl (fun ls hl => ?_)
      refine lv_aload_n hx hb dX5_walk_39 rfl (lv_at hl 2 rfl) ?_
      refine va_get (D := D) (ci := 5) (v := .ref (a 24)) (C := RX5) (T := TX5) (N := 7) hx hb htg ig_5 hown hK hP 3 (oh_wg (by decide) (sX_3 hT)) rfl 2 (by decide) (htg _ q_170) (fun _ h9 => h9) rfl dX5_walk_40 ?_
      refine lv_iload_n hx hb dX5_walk_43 rfl (lv_at hl 1 rfl) ?_
      have n_5 : vp_in (Int64.toInt32 x1) 24 := (rg_in (rg_l2i (rnL_ltu (u' := 23) (oh_lc_lt c_2) (rnL_lel (oh_lc_nlt c_1) (rgL_c (v := 0) (lo := 0) (hi := 0) (by decide)) (rgL_any _)) (rgL_i (tA_rdc (lo := 0) (hi := 24) (tX_10 hT0) (rg_in (rg_c (v := 0) (lo := 0) (hi := 0) (by decide)) (by decide)) (show _ = 0 by decide) (by decide))) (by decide)) (by decide)) (by decide))
      refine th_iald hx hb hK hP 24 (by decide) (sX_24 hT) n_5 dX5_walk_44 ?_
      refine lv_iconst (v := (-1)) hx hb dX5_walk_45 (by decide) ?_
      refine lv_icmp_eq (tgt := 55) hx hb dX5_walk_46 (by decide) (fun (c_6 : (ga (C 24) (Int64.toInt32 x1).toNatClampNeg) = (-1)) => ?_) (fun (c_6 : ¬ ((ga (C 24) (Int64.toInt32 x1).toNatClampNeg) = (-1))) => ?_)
      · refine lv_iconst (v := 0) hx hb dX5_walk_55 (by decide) ?_
        rw [hQ]
        exact W.zret (v := 0) (ty := .boolean) hx hb hr (by decide) (fun t ht hW => ⟨⟨0, C, rfl, ⟨hT, hF, ⟨(Or.inl rfl), (fun A w s hA hok hs => by have hv1 : x1 < Int32.toInt64 (A 5 0 0) := (by rw [← (show ga (C 10) ((0 : Int32)).toNatClampNeg = A 5 0 0 from hA.1 0 (by decide))]; exact (oh_lc_lt c_2)); obtain ⟨iz, hz1⟩ := n_of hok.1.1 (oh_lc_nlt c_1) hv1; have hr := n0_lt iz hz1; exact ⟨⟨fun h8 => absurd h8 (by decide), fun h8 => absurd h8 (fun q => (sv_g hs.2 hr hok.n16).mp c_6 q.2.1)⟩, fun h8 => absurd h8 (by decide)⟩)⟩⟩, ⟨by rw [ht]; exact hP, hD⟩⟩, hS.F ht⟩) hS.2.2 dX5_walk_56
      · refine lv_iload hx hb dX5_walk_49 (lv_at hl 0 rfl) ?_
        refine lv_iconst (v := (-1)) hx hb dX5_walk_51 (by decide) ?_
        refine lv_icmp_ne (tgt := 57) hx hb dX5_walk_52 (by decide) (fun (c_7 : ¬ (r_3 = (-1))) => ?_) (fun (c_7 : r_3 = (-1)) => ?_)
        · refine lv_aload_n hx hb dX5_walk_57 rfl (lv_at hl 2 rfl) ?_
          refine va_get (D := D) (ci := 5) (v := .ref (a 28)) (C := RX5) (T := TX5) (N := 7) hx hb htg ig_5 hown hK hP 3 (oh_wg (by decide) (sX_3 hT)) rfl 6 (by decide) (htg _ q_175) (fun _ h9 => h9) rfl dX5_walk_58 ?_
          refine lv_iconst (v := 0) hx hb dX5_walk_61 (by decide) ?_
          refine lv_dup2_11 hx hb dX5_walk_62 rfl rfl ?_
          refine th_iald hx hb hK hP 28 (by decide) (sX_28 hT) (rg_in (rg_c (v := 0) (lo := 0) (hi := 0) (by decide)) (by decide)) dX5_walk_63 ?_
          refine lv_aload_n hx hb dX5_walk_64 rfl (lv_at hl 2 rfl) ?_
          refine lv_iload_n hx hb dX5_walk_65 rfl (lv_at hl 1 rfl) ?_
          refine lv_iconst (v := 1) hx hb dX5_walk_66 (by decide) ?_
          refine tq_V (As := [.int (Int64.toInt32 x1), .int 1]) (rest := [.int (ga (C 28) ((0 : Int32)).toNatClampNeg), .int 0, .ref (a 28)]) (ws := (oh_W 35 a C)) ⟨hx, hb, hml, hown, htg⟩ (e_X5_coinOf l D E G a C hT (Int64.toInt32 x1) (1 : Int32) (rg_w (rg_l2i (rnL_ltu (u' := 23) (oh_lc_lt c_2) (rnL_lel (oh_lc_nlt c_1) (rgL_c (v := 0) (lo := 0) (hi := 0) (by decide)) (rgL_any _)) (rgL_i (tA_rdc (lo := 0) (hi := 24) (tX_10 hT0) (rg_in (rg_c (v := 0) (lo := 0) (hi := 0) (by decide)) (by decide)) (show _ = 0 by decide) (by decide))) (by decide)) (by decide)) (by decide))) (cwV 2 htg (oh_gV q_789 q_763 q_764 q_68 q_765) rfl rfl rfl pdVX5_coinOf ⟨Nat.le_of_ble_eq_true rfl, Nat.le_of_ble_eq_true rfl⟩) hK hP hG hS (va_recv hK hP (ci := 5) (q0 := 3) rfl (oh_wg (by decide) (sX_3 hT))) rfl hl.1 rfl (Nat.le_of_ble_eq_true rfl) dX5_walk_67 ⟨Nat.le_of_ble_eq_true rfl, Nat.le_of_ble_eq_true rfl⟩ (fun r_8 hq_9 => ?_)
          refine lv_iadd hx hb dX5_walk_70 ?_
          refine th_iast (T := TyX a E) (Rl := fr [(28, 29)] [] C) hx hb hK hP hD hS 28 (by decide) (sX_28 hT) (rg_in (rg_c (v := 0) (lo := 0) (hi := 0) (by decide)) (by decide)) (hT.up 28 (tA_upd (tX_28 hT) (tA_stc (show _ = 0 by decide) (rg_any _) (by decide)))) (fr_st hF (by decide) (by decide)) dX5_walk_71 (fun C_10 H locs e_11 hT hF hP hD hS => ?_)
          have t_12 := hT
          refine lv_aload_n hx hb dX5_walk_72 rfl (lv_at hl 2 rfl) ?_
          refine va_get (D := D) (ci := 5) (v := .ref (a 28)) (C := RX5) (T := TX5) (N := 7) hx hb htg ig_5 hown hK hP 3 (oh_wg (by decide) (sX_3 hT)) rfl 6 (by decide) (htg _ q_175) (fun _ h9 => h9) rfl dX5_walk_73 ?_
          refine lv_iconst (v := 1) hx hb dX5_walk_76 (by decide) ?_
          refine lv_dup2_11 hx hb dX5_walk_77 rfl rfl ?_
          refine th_iald hx hb hK hP 28 (by decide) (sX_28 hT) (rg_in (rg_c (v := 1) (lo := 1) (hi := 1) (by decide)) (by decide)) dX5_walk_78 ?_
          refine lv_aload_n hx hb dX5_walk_79 rfl (lv_at hl 2 rfl) ?_
          refine lv_iload_n hx hb dX5_walk_80 rfl (lv_at hl 1 rfl) ?_
          refine tq_V (As := [.int (Int64.toInt32 x1)]) (rest := [.int (ga (C_10 28) ((1 : Int32)).toNatClampNeg), .int 1, .ref (a 28)]) (ws := (oh_W 35 a C_10)) ⟨hx, hb, hml, hown, htg⟩ (e_X5_daysOf l D E G a C_10 hT (Int64.toInt32 x1) (rg_w (rg_l2i (rnL_ltu (u' := 23) (oh_lc_lt c_2) (rnL_lel (oh_lc_nlt c_1) (rgL_c (v := 0) (lo := 0) (hi := 0) (by decide)) (rgL_any _)) (rgL_i (tA_rdc (lo := 0) (hi := 24) (tX_10 hT0) (rg_in (rg_c (v := 0) (lo := 0) (hi := 0) (by decide)) (by decide)) (show _ = 0 by decide) (by decide))) (by decide)) (by decide)) (by decide))) (cwV 1 htg (oh_gV q_812 q_768 q_769 q_68 q_770) rfl rfl rfl pdVX5_daysOf ⟨Nat.le_of_ble_eq_true rfl, Nat.le_of_ble_eq_true rfl⟩) hK hP hG hS (va_recv hK hP (ci := 5) (q0 := 3) rfl (oh_wg (by decide) (sX_3 hT))) rfl hl.1 rfl (Nat.le_of_ble_eq_true rfl) dX5_walk_81 ⟨Nat.le_of_ble_eq_true rfl, Nat.le_of_ble_eq_true rfl⟩ (fun r_13 hq_14 => ?_)
          refine lv_iadd hx hb dX5_walk_84 ?_
          refine th_iast (T := TyX a E) (Rl := fr [(28, 29)] [] C) hx hb hK hP hD hS 28 (by decide) (sX_28 hT) (rg_in (rg_c (v := 1) (lo := 1) (hi := 1) (by decide)) (by decide)) (hT.up 28 (tA_upd (tX_28 hT) (tA_stc (show _ = 1 by decide) (rg_any _) (by decide)))) (fr_st hF (by decide) (by decide)) dX5_walk_85 (fun C_15 H locs e_16 hT hF hP hD hS => ?_)
          have t_17 := hT
          refine lv_aload_n hx hb dX5_walk_86 rfl (lv_at hl 2 rfl) ?_
          refine va_get (D := D) (ci := 5) (v := .ref (a 28)) (C := RX5) (T := TX5) (N := 7) hx hb htg ig_5 hown hK hP 3 (oh_wg (by decide) (sX_3 hT)) rfl 6 (by decide) (htg _ q_175) (fun _ h9 => h9) rfl dX5_walk_87 ?_
          refine lv_iconst (v := 2) hx hb dX5_walk_90 (by decide) ?_
          refine lv_dup2_11 hx hb dX5_walk_91 rfl rfl ?_
          refine th_iald hx hb hK hP 28 (by decide) (sX_28 hT) (rg_in (rg_c (v := 2) (lo := 2) (hi := 2) (by decide)) (by decide)) dX5_walk_92 ?_
          refine lv_iconst (v := 1) hx hb dX5_walk_93 (by decide) ?_
          refine lv_aload_n hx hb dX5_walk_94 rfl (lv_at hl 2 rfl) ?_
          refine va_get (D := D) (ci := 5) (v := .ref (a 1)) (C := RX5) (T := TX5) (N := 7) hx hb htg ig_5 hown hK hP 3 (oh_wg (by decide) (sX_3 hT)) rfl 0 (by decide) (htg _ q_167) (fun _ h9 => h9) rfl dX5_walk_95 ?_
          refine lv_iload_n hx hb dX5_walk_98 rfl (lv_at hl 1 rfl) ?_
          refine lv_iconst (v := 5) hx hb dX5_walk_99 (by decide) ?_
          refine tq_V (As := [.int (Int64.toInt32 x1), .int 5]) (rest := [.int 1, .int (ga (C_15 28) ((2 : Int32)).toNatClampNeg), .int 2, .ref (a 28)]) (ws := (oh_W 35 a C_15)) ⟨hx, hb, hml, hown, htg⟩ (c_X0_ofRoad l D E G a C_15 hT (Int64.toInt32 x1) (5 : Int32) (rg_w (rg_l2i (rnL_ltu (u' := 23) (oh_lc_lt c_2) (rnL_lel (oh_lc_nlt c_1) (rgL_c (v := 0) (lo := 0) (hi := 0) (by decide)) (rgL_any _)) (rgL_i (tA_rdc (lo := 0) (hi := 24) (tX_10 hT0) (rg_in (rg_c (v := 0) (lo := 0) (hi := 0) (by decide)) (by decide)) (show _ = 0 by decide) (by decide))) (by decide)) (by decide)) (by decide)) (rg_w (rg_c (v := 5) (lo := 5) (hi := 5) (by decide)) (by decide))) (cwV 2 htg (oh_gV q_755 q_480 q_481 q_67 q_482) rfl rfl rfl pdVX0_ofRoad ⟨Nat.le_of_ble_eq_true rfl, Nat.le_of_ble_eq_true rfl⟩) hK hP hG hS (va_recv hK hP (ci := 0) (q0 := 1) rfl (oh_wg (by decide) (sX_1 hT))) rfl hl.1 rfl (Nat.le_of_ble_eq_true rfl) dX5_walk_100 ⟨Nat.le_of_ble_eq_true rfl, Nat.le_of_ble_eq_true rfl⟩ (fun r_18 hq_19 => ?_)
          subst hq_19
          refine lv_ishl hx hb dX5_walk_103 ?_
          refine lv_ior hx hb dX5_walk_104 ?_
          refine th_iast (T := TyX a E) (Rl := fr [(28, 29)] [] C) hx hb hK hP hD hS 28 (by decide) (sX_28 hT) (rg_in (rg_c (v := 2) (lo := 2) (hi := 2) (by decide)) (by decide)) (hT.up 28 (tA_upd (tX_28 hT) (tA_stc (show _ = 2 by decide) (rg_any _) (by decide)))) (fr_st hF (by decide) (by decide)) dX5_walk_105 (fun C_20 H locs e_21 hT hF hP hD hS => ?_)
          have t_22 := hT
          refine lv_aload_n hx hb dX5_walk_106 rfl (lv_at hl 2 rfl) ?_
          refine va_get (D := D) (ci := 5) (v := .ref (a 28)) (C := RX5) (T := TX5) (N := 7) hx hb htg ig_5 hown hK hP 3 (oh_wg (by decide) (sX_3 hT)) rfl 6 (by decide) (htg _ q_175) (fun _ h9 => h9) rfl dX5_walk_107 ?_
          refine lv_iconst (v := 3) hx hb dX5_walk_110 (by decide) ?_
          refine lv_iload hx hb dX5_walk_111 (lv_at hl 0 rfl) ?_
          refine th_iast (T := TyX a E) (Rl := fr [(28, 29)] [] C) hx hb hK hP hD hS 28 (by decide) (sX_28 hT) (rg_in (rg_c (v := 3) (lo := 3) (hi := 3) (by decide)) (by decide)) (hT.up 28 (tA_upd (tX_28 hT) (tA_stc (show _ = 3 by decide) (rn_nel (l' := 0) c_7 hq_4.1 (rg_c (v := (-1)) (lo := (-1)) (hi := (-1)) (by decide)) (by decide)) (by decide)))) (fr_st hF (by decide) (by decide)) dX5_walk_113 (fun C_23 H locs e_24 hT hF hP hD hS => ?_)
          have t_25 := hT
          refine lv_iconst (v := 1) hx hb dX5_walk_114 (by decide) ?_
          rw [hQ]
          exact W.zret (v := 1) (ty := .boolean) hx hb hr (by decide) (fun t ht hW => ⟨⟨1, C_23, rfl, ⟨hT, hF, ⟨(Or.inr rfl), (fun A w s hA hok hs => by have hv1 : x1 < Int32.toInt64 (A 5 0 0) := (by rw [← (show ga (C 10) ((0 : Int32)).toNatClampNeg = A 5 0 0 from hA.1 0 (by decide))]; exact (oh_lc_lt c_2)); obtain ⟨iz, hz1⟩ := n_of hok.1.1 (oh_lc_nlt c_1) hv1; have hr := n0_lt iz hz1; have e0 : ga (C 11) (((Int64.toInt32 x1) * 7) + 0).toNatClampNeg = A 0 (Int64.toInt32 x1).toNatClampNeg 0 := rcX hA iz hz1 ⟨by decide, by decide⟩; have e1 : ga (C 11) (((Int64.toInt32 x1) * 7) + 1).toNatClampNeg = A 0 (Int64.toInt32 x1).toNatClampNeg 1 := rcX hA iz hz1 ⟨by decide, by decide⟩; have e5 : ga (C 11) (((Int64.toInt32 x1) * 7) + 5).toNatClampNeg = A 0 (Int64.toInt32 x1).toNatClampNeg 5 := rcX hA iz hz1 ⟨by decide, by decide⟩; have eo := hq_4.2; rw [e0, e1] at eo; have ho := oe_1 hok hr (rg_w (lo := 0) (hi := 15) (tA_rdc (lo := 0) (hi := 15) (tX_28 hT0) (rg_in (rg_c (v := 3) (lo := 3) (hi := 3) (by decide)) (by decide)) (show _ = 3 by decide) (by decide)) (by decide)) eo; have hg := (show gsA A w s (Int64.toInt32 x1).toNatClampNeg from Classical.byContradiction (fun q => c_6 ((sv_g hs.2 hr hok.n16).mpr q))); have ec := coX (n := 1) hA hs iz hz1 hg hq_9; have hKd := (absX_eq hA (fun k k1 k2 => th_un e_11 (by omega))); have ed := dyX hKd (svX_eq hs (th_un e_11 (by decide)) (th_un e_11 (by decide)) (th_un e_11 (by decide))) iz hz1 hg hq_14; exact ⟨⟨fun _ => ⟨⟨(oh_lc_nlt c_1), hv1⟩, hg, Classical.byContradiction (fun q => c_7 (ho.1.mpr q))⟩, fun _ => rfl⟩, fun _ => ⟨(Eq.trans (show ga (C_23 28) ((0 : Int32)).toNatClampNeg = (ga (C 28) ((0 : Int32)).toNatClampNeg) + r_8 from (by rw [st_ga e_24, pk_un (by decide), st_ga e_21, pk_un (by decide), st_ga e_16, pk_un (by decide), st_ga e_11, pk_us])) (by rw [ec]; rfl)), (Eq.trans (show ga (C_23 28) ((1 : Int32)).toNatClampNeg = (ga (C_10 28) ((1 : Int32)).toNatClampNeg) + r_13 from (by rw [st_ga e_24, pk_un (by decide), st_ga e_21, pk_un (by decide), st_ga e_16, pk_us])) (by rw [show ga (C_10 28) ((1 : Int32)).toNatClampNeg = ga (C 28) ((1 : Int32)).toNatClampNeg from (show ga (C_10 28) ((1 : Int32)).toNatClampNeg = ga (C 28) ((1 : Int32)).toNatClampNeg from (by rw [st_ga e_11, pk_un (by decide)])), ed]; rfl)), (Eq.trans (show ga (C_23 28) ((2 : Int32)).toNatClampNeg = (ga (C_15 28) ((2 : Int32)).toNatClampNeg) ||| ((1 : Int32) <<< ((ga (C_15 11) (((Int64.toInt32 x1) * 7) + 5).toNatClampNeg) &&& 31)) from (by rw [st_ga e_24, pk_un (by decide), st_ga e_21, pk_us])) (by rw [show ga (C_15 28) ((2 : Int32)).toNatClampNeg = ga (C 28) ((2 : Int32)).toNatClampNeg from (show ga (C_15 28) ((2 : Int32)).toNatClampNeg = ga (C 28) ((2 : Int32)).toNatClampNeg from (by rw [st_ga e_16, pk_un (by decide), st_ga e_11, pk_un (by decide)])), show C_15 11 = C 11 from (Eq.trans (th_un e_16 (by decide)) (th_un e_11 (by decide))), e5]; rfl)), Eq.trans (show ga (C_23 28) ((3 : Int32)).toNatClampNeg = r_3 from (by rw [st_ga e_24, pk_us])) eo⟩⟩)⟩⟩, ⟨by rw [ht]; exact hP, hD⟩⟩, hS.F ht⟩) hS.2.2 dX5_walk_115
        · refine lv_iconst (v := 0) hx hb dX5_walk_55 (by decide) ?_
          rw [hQ]
          exact W.zret (v := 0) (ty := .boolean) hx hb hr (by decide) (fun t ht hW => ⟨⟨0, C, rfl, ⟨hT, hF, ⟨(Or.inl rfl), (fun A w s hA hok hs => by have hv1 : x1 < Int32.toInt64 (A 5 0 0) := (by rw [← (show ga (C 10) ((0 : Int32)).toNatClampNeg = A 5 0 0 from hA.1 0 (by decide))]; exact (oh_lc_lt c_2)); obtain ⟨iz, hz1⟩ := n_of hok.1.1 (oh_lc_nlt c_1) hv1; have hr := n0_lt iz hz1; have e0 : ga (C 11) (((Int64.toInt32 x1) * 7) + 0).toNatClampNeg = A 0 (Int64.toInt32 x1).toNatClampNeg 0 := rcX hA iz hz1 ⟨by decide, by decide⟩; have e1 : ga (C 11) (((Int64.toInt32 x1) * 7) + 1).toNatClampNeg = A 0 (Int64.toInt32 x1).toNatClampNeg 1 := rcX hA iz hz1 ⟨by decide, by decide⟩; have e5 : ga (C 11) (((Int64.toInt32 x1) * 7) + 5).toNatClampNeg = A 0 (Int64.toInt32 x1).toNatClampNeg 5 := rcX hA iz hz1 ⟨by decide, by decide⟩; have eo := hq_4.2; rw [e0, e1] at eo; have ho := oe_1 hok hr (rg_w (lo := 0) (hi := 15) (tA_rdc (lo := 0) (hi := 15) (tX_28 hT0) (rg_in (rg_c (v := 3) (lo := 3) (hi := 3) (by decide)) (by decide)) (show _ = 3 by decide) (by decide)) (by decide)) eo; exact ⟨⟨fun h8 => absurd h8 (by decide), fun h8 => absurd h8 (fun q => (ho.1.mp c_7) q.2.2)⟩, fun h8 => absurd h8 (by decide)⟩)⟩⟩, ⟨by rw [ht]; exact hP, hD⟩⟩, hS.F ht⟩) hS.2.2 dX5_walk_56
    · refine lv_iconst (v := 0) hx hb dX5_walk_21 (by decide) ?_
      rw [hQ]
      exact W.zret (v := 0) (ty := .boolean) hx hb hr (by decide) (fun t ht hW => ⟨⟨0, C, rfl, ⟨hT, hF, ⟨(Or.inl rfl), (fun A w s hA hok hs => ⟨⟨fun h8 => absurd h8 (by decide), fun h8 => absurd h8 (fun q => absurd q.1.2 (Int64.not_lt.mpr (by rw [← (show ga (C 10) ((0 : Int32)).toNatClampNeg = A 5 0 0 from hA.1 0 (by decide))]; exact (oh_lc_nlt c_2))))⟩, fun h8 => absurd h8 (by decide)⟩)⟩⟩, ⟨by rw [ht]; exact hP, hD⟩⟩, hS.F ht⟩) hS.2.2 dX5_walk_22
set_option maxHeartbeats 4000000 in
set_option maxRecDepth 100000 in
theorem e2_X6_goAlong (l : Launch) (D : va_G) (E : Nat → ClassId) (G : Nat → Nat) (sz : Nat) (a : Nat → Nat) (C : Nat → va_E) (hT : TyX a E C) (x1 : Int32) (hx1 : rg x1 0 23) : Met l yX6_goAlong (oh_w yX6_goAlong cX6_goAlong 3 none) ({ frames := 4, cells := 0, slots := 0, locals := 97 }) (oh_Pm D E G [.ref (a 0), .int x1] (oh_W 35 a C) sz) (va_Qv (fun (u : Nat → va_E) => TyX a E u ∧ fr [(12, 13), (16, 17), (28, 29)] [] C u ∧ (∀ (A : LA) (w s : Int32), absX 10 C A → okA A → svX C A w s → x1 < A 5 0 0 → gsA A w s x1.toNatClampNeg → (aA A x1.toNatClampNeg = (ga (C 16) ((0 : Int32)).toNatClampNeg).toNatClampNeg ∨ bA A x1.toNatClampNeg = (ga (C 16) ((0 : Int32)).toNatClampNeg).toNatClampNeg) → absX 10 u (spU A w s x1.toNatClampNeg (n1A A)) ∧ gaP A w s x1 (ga (C 16)) (ga (u 16)))) (oh_B D (va_A (oh_W 35 a C) sz) (fun u => oh_W 35 a u)) (va_A (oh_W 35 a C) sz)) 0 0 (va_A (oh_W 35 a C) sz) := by
  refine Met.ofW (cc := cX6_goAlong) (maxL := 3) (ret := none) (by decide) rfl ?_
  intro p e s m args below meth c s₁ B hml hv
  obtain ⟨rfl, hsz, hP, hK, hD0, hG⟩ := hv
  have hx := B.exec
  have hb := B.bytes
  have hr := B.returns
  have hts := atoms_spec (ws := (oh_w yX6_goAlong cX6_goAlong 3 none)) B.pre
  have htg : ∀ w ∈ oh_t, w.before _ s = true := fun w h => hts w (List.mem_cons_of_mem _ h)
  have hown : s.vm.findClass RX6 = some m.cls := findClass_of_methodNamed B.named
  have hlocks := B.notSynchronized
  have hT0 := hT
  subst hsz
  have hD := hD0.self (sz := s.heap.size)
  generalize hAe : va_A (oh_W 35 a C) s.heap.size = A at hD hG ⊢
  have hA : ∀ q : Nat, s.heap.size ≤ q → A q := fun q h => by rw [← hAe]; exact Or.inr h
  have hS : va_S A s.heap s.heap [] := va_S.rf
  have hF : fr [(12, 13), (16, 17), (28, 29)] [] C C := fr_rf
  have hl := lv_entry ([.ref (a 0), .int x1]) (n := 3) (Nat.le_of_ble_eq_true rfl)
  rw [lg_entry_eq]
  generalize (lg_sl ([.ref (a 0), .int x1]) ++ List.replicate (3 - (lg_sl ([.ref (a 0), .int x1])).length) Slot.unset).toArray = ls at hl ⊢
  have hl : lv_has ls 3 [(0, .ref (a 0)), (1, .int x1)] := hl
  refine oh_genQ (fun Q hQ => ?_)
  refine lv_aload_n hx hb dX6_goAlong_0 rfl (lv_at hl 0 rfl) ?_
  refine va_get (D := D) (ci := 6) (v := .ref (a 1)) (C := RX6) (T := TX6) (N := 9) hx hb htg ig_6 hown hK hP 0 (oh_wg (by decide) (sX_0 hT)) rfl 0 (by decide) (htg _ q_258) (fun _ h9 => h9) rfl dX6_goAlong_1 ?_
  refine va_get (D := D) (ci := 0) (v := .ref (a 16)) (C := RX0) (T := TX0) (N := 8) hx hb htg ig_0 hown hK hP 1 (oh_wg (by decide) (sX_1 hT)) rfl 6 (by decide) (htg _ q_112) (fun _ h9 => h9) rfl dX6_goAlong_4 ?_
  refine lv_astore_n (lv' := [(2, .ref (a 16)), (0, .ref (a 0)), (1, .int x1)]) hx hb dX6_goAlong_7 rfl hl (by decide) rfl (fun ls hl => ?_)
  refine lv_aload_n hx hb dX6_goAlong_8 rfl (lv_at hl 1 rfl) ?_
  refine va_get (D := D) (ci := 6) (v := .ref (a 3)) (C := RX6) (T := TX6) (N := 9) hx hb htg ig_6 hown hK hP 0 (oh_wg (by decide) (sX_0 hT)) rfl 3 (by decide) (htg _ q_261) (fun _ h9 => h9) rfl dX6_goAlong_9 ?_
  refine lv_aload_n hx hb dX6_goAlong_12 rfl (lv_at hl 0 rfl) ?_
  refine lv_iconst (v := 0) hx hb dX6_goAlong_13 (by decide) ?_
  refine th_iald hx hb hK hP 16 (by decide) (sX_16 hT) (rg_in (rg_c (v := 0) (lo := 0) (hi := 0) (by decide)) (by decide)) dX6_goAlong_14 ?_
  refine tm_Vv (As := [.int (ga (C 16) ((0 : Int32)).toNatClampNeg)]) (rest := []) ⟨hx, hb, hml, hown, htg⟩ (e_X5_setOut l D E G _ a C hT (ga (C 16) ((0 : Int32)).toNatClampNeg) (rg_w (tA_rdc (lo := 0) (hi := 15) (tX_16 hT0) (rg_in (rg_c (v := 0) (lo := 0) (hi := 0) (by decide)) (by decide)) (show _ = 0 by decide) (by decide)) (by decide))) (cwV 1 htg (oh_gV q_838 q_839 q_840 q_68 q_841) rfl rfl rfl pdVX5_setOut ⟨Nat.le_of_ble_eq_true rfl, Nat.le_of_ble_eq_true rfl⟩) hK hP hD hG hS hA (va_recv hK hP (ci := 5) (q0 := 3) rfl (oh_wg (by decide) (sX_3 hT))) rfl hl.1 rfl (Nat.le_of_ble_eq_true rfl) dX6_goAlong_15 ⟨Nat.le_of_ble_eq_true rfl, Nat.le_of_ble_eq_true rfl⟩ (fun C_2 H locs hq_3 hP hD hS => ?_)
  obtain ⟨hT, f_4, hq_3⟩ := hq_3
  have hF := fr_tr hF f_4 (by decide) (by decide)
  refine W.widen (k := 0) (n := 0) (Nat.le_refl _) (Nat.le_refl _) ?_
  have t_5 := hT
  refine lv_aload_n hx hb dX6_goAlong_18 rfl (lv_at hl 1 rfl) ?_
  refine va_get (D := D) (ci := 6) (v := .ref (a 3)) (C := RX6) (T := TX6) (N := 9) hx hb htg ig_6 hown hK hP 0 (oh_wg (by decide) (sX_0 hT)) rfl 3 (by decide) (htg _ q_261) (fun _ h9 => h9) rfl dX6_goAlong_19 ?_
  refine lv_iload_n hx hb dX6_goAlong_22 rfl (lv_at hl 2 rfl) ?_
  refine lv_i2l (v := Int32.toInt64 x1) hx hb dX6_goAlong_23 (by rfl) ?_
  refine tm_V (As := [.long (Int32.toInt64 x1)]) (rest := []) ⟨hx, hb, hml, hown, htg⟩ (e_X5_walk l D E G _ a C_2 hT (Int32.toInt64 x1)) (cwV 1 htg (oh_gV q_842 q_843 q_844 q_68 q_845) rfl rfl rfl pdVX5_walk ⟨Nat.le_of_ble_eq_true rfl, Nat.le_of_ble_eq_true rfl⟩) hK hP hD hG hS hA (va_recv hK hP (ci := 5) (q0 := 3) rfl (oh_wg (by decide) (sX_3 hT))) rfl hl.1 rfl (Nat.le_of_ble_eq_true rfl) dX6_goAlong_24 ⟨Nat.le_of_ble_eq_true rfl, Nat.le_of_ble_eq_true rfl⟩ (fun r_6 C_7 H locs hq_8 hP hD hS => ?_)
  obtain ⟨hT, f_9, hq_8⟩ := hq_8
  have hF := fr_tr hF f_9 (by decide) (by decide)
  refine W.widen (k := 0) (n := 0) (Nat.le_refl _) (Nat.le_refl _) ?_
  have t_10 := hT
  refine lv_pop hx hb dX6_goAlong_27 rfl ?_
  refine lv_aload_n hx hb dX6_goAlong_28 rfl (lv_at hl 0 rfl) ?_
  refine lv_iconst (v := 0) hx hb dX6_goAlong_29 (by decide) ?_
  refine lv_aload_n hx hb dX6_goAlong_30 rfl (lv_at hl 1 rfl) ?_
  refine va_get (D := D) (ci := 6) (v := .ref (a 3)) (C := RX6) (T := TX6) (N := 9) hx hb htg ig_6 hown hK hP 0 (oh_wg (by decide) (sX_0 hT)) rfl 3 (by decide) (htg _ q_261) (fun _ h9 => h9) rfl dX6_goAlong_31 ?_
  refine va_get (D := D) (ci := 5) (v := .ref (a 28)) (C := RX5) (T := TX5) (N := 7) hx hb htg ig_5 hown hK hP 3 (oh_wg (by decide) (sX_3 hT)) rfl 6 (by decide) (htg _ q_176) (fun _ h9 => h9) rfl dX6_goAlong_34 ?_
  refine lv_iconst (v := 3) hx hb dX6_goAlong_37 (by decide) ?_
  refine th_iald hx hb hK hP 28 (by decide) (sX_28 hT) (rg_in (rg_c (v := 3) (lo := 3) (hi := 3) (by decide)) (by decide)) dX6_goAlong_38 ?_
  refine th_iast (T := TyX a E) (Rl := fr [(12, 13), (16, 17), (28, 29)] [] C) hx hb hK hP hD hS 16 (by decide) (sX_16 hT) (rg_in (rg_c (v := 0) (lo := 0) (hi := 0) (by decide)) (by decide)) (hT.up 16 (tA_upd (tX_16 hT) (tA_stc (show _ = 0 by decide) (tA_rdc (lo := 0) (hi := 15) (tX_28 t_10) (rg_in (rg_c (v := 3) (lo := 3) (hi := 3) (by decide)) (by decide)) (show _ = 3 by decide) (by decide)) (by decide)))) (fr_st hF (by decide) (by decide)) dX6_goAlong_39 (fun C_11 H locs e_12 hT hF hP hD hS => ?_)
  have t_13 := hT
  refine lv_aload_n hx hb dX6_goAlong_40 rfl (lv_at hl 0 rfl) ?_
  refine lv_iconst (v := 2) hx hb dX6_goAlong_41 (by decide) ?_
  refine lv_dup2_11 hx hb dX6_goAlong_42 rfl rfl ?_
  refine th_iald hx hb hK hP 16 (by decide) (sX_16 hT) (rg_in (rg_c (v := 2) (lo := 2) (hi := 2) (by decide)) (by decide)) dX6_goAlong_43 ?_
  refine lv_aload_n hx hb dX6_goAlong_44 rfl (lv_at hl 1 rfl) ?_
  refine va_get (D := D) (ci := 6) (v := .ref (a 3)) (C := RX6) (T := TX6) (N := 9) hx hb htg ig_6 hown hK hP 0 (oh_wg (by decide) (sX_0 hT)) rfl 3 (by decide) (htg _ q_261) (fun _ h9 => h9) rfl dX6_goAlong_45 ?_
  refine va_get (D := D) (ci := 5) (v := .ref (a 28)) (C := RX5) (T := TX5) (N := 7) hx hb htg ig_5 hown hK hP 3 (oh_wg (by decide) (sX_3 hT)) rfl 6 (by decide) (htg _ q_176) (fun _ h9 => h9) rfl dX6_goAlong_48 ?_
  refine lv_iconst (v := 0) hx hb dX6_goAlong_51 (by decide) ?_
  refine th_iald hx hb hK hP 28 (by decide) (Eq.trans (th_un e_12 (by decide)) (sX_28 t_10)) (rg_in (rg_c (v := 0) (lo := 0) (hi := 0) (by decide)) (by decide)) dX6_goAlong_52 ?_
  refine lv_iadd hx hb dX6_goAlong_53 ?_
  refine th_iast (T := TyX a E) (Rl := fr [(12, 13), (16, 17), (28, 29)] [] C) hx hb hK hP hD hS 16 (by decide) (sX_16 hT) (rg_in (rg_c (v := 2) (lo := 2) (hi := 2) (by decide)) (by decide)) (hT.up 16 (tA_upd (tX_16 hT) (tA_stc (show _ = 2 by decide) (rg_any _) (by decide)))) (fr_st hF (by decide) (by decide)) dX6_goAlong_54 (fun C_14 H locs e_15 hT hF hP hD hS => ?_)
  have t_16 := hT
  refine lv_aload_n hx hb dX6_goAlong_55 rfl (lv_at hl 0 rfl) ?_
  refine lv_iconst (v := 3) hx hb dX6_goAlong_56 (by decide) ?_
  refine lv_dup2_11 hx hb dX6_goAlong_57 rfl rfl ?_
  refine th_iald hx hb hK hP 16 (by decide) (sX_16 hT) (rg_in (rg_c (v := 3) (lo := 3) (hi := 3) (by decide)) (by decide)) dX6_goAlong_58 ?_
  refine lv_aload_n hx hb dX6_goAlong_59 rfl (lv_at hl 1 rfl) ?_
  refine va_get (D := D) (ci := 6) (v := .ref (a 3)) (C := RX6) (T := TX6) (N := 9) hx hb htg ig_6 hown hK hP 0 (oh_wg (by decide) (sX_0 hT)) rfl 3 (by decide) (htg _ q_261) (fun _ h9 => h9) rfl dX6_goAlong_60 ?_
  refine va_get (D := D) (ci := 5) (v := .ref (a 28)) (C := RX5) (T := TX5) (N := 7) hx hb htg ig_5 hown hK hP 3 (oh_wg (by decide) (sX_3 hT)) rfl 6 (by decide) (htg _ q_176) (fun _ h9 => h9) rfl dX6_goAlong_63 ?_
  refine lv_iconst (v := 1) hx hb dX6_goAlong_66 (by decide) ?_
  refine th_iald hx hb hK hP 28 (by decide) (Eq.trans (Eq.trans (th_un e_15 (by decide)) (th_un e_12 (by decide))) (sX_28 t_10)) (rg_in (rg_c (v := 1) (lo := 1) (hi := 1) (by decide)) (by decide)) dX6_goAlong_67 ?_
  refine lv_iadd hx hb dX6_goAlong_68 ?_
  refine th_iast (T := TyX a E) (Rl := fr [(12, 13), (16, 17), (28, 29)] [] C) hx hb hK hP hD hS 16 (by decide) (sX_16 hT) (rg_in (rg_c (v := 3) (lo := 3) (hi := 3) (by decide)) (by decide)) (hT.up 16 (tA_upd (tX_16 hT) (tA_stc (show _ = 3 by decide) (rg_any _) (by decide)))) (fr_st hF (by decide) (by decide)) dX6_goAlong_69 (fun C_17 H locs e_18 hT hF hP hD hS => ?_)
  have t_19 := hT
  refine lv_aload_n hx hb dX6_goAlong_70 rfl (lv_at hl 0 rfl) ?_
  refine lv_iconst (v := 4) hx hb dX6_goAlong_71 (by decide) ?_
  refine lv_dup2_11 hx hb dX6_goAlong_72 rfl rfl ?_
  refine th_iald hx hb hK hP 16 (by decide) (sX_16 hT) (rg_in (rg_c (v := 4) (lo := 4) (hi := 4) (by decide)) (by decide)) dX6_goAlong_73 ?_
  refine lv_iconst (v := 1) hx hb dX6_goAlong_74 (by decide) ?_
  refine lv_iadd hx hb dX6_goAlong_75 ?_
  refine th_iast (T := TyX a E) (Rl := fr [(12, 13), (16, 17), (28, 29)] [] C) hx hb hK hP hD hS 16 (by decide) (sX_16 hT) (rg_in (rg_c (v := 4) (lo := 4) (hi := 4) (by decide)) (by decide)) (hT.up 16 (tA_upd (tX_16 hT) (tA_stc (show _ = 4 by decide) (rg_any _) (by decide)))) (fr_st hF (by decide) (by decide)) dX6_goAlong_76 (fun C_20 H locs e_21 hT hF hP hD hS => ?_)
  have t_22 := hT
  refine lv_aload_n hx hb dX6_goAlong_77 rfl (lv_at hl 1 rfl) ?_
  refine va_get (D := D) (ci := 6) (v := .ref (a 3)) (C := RX6) (T := TX6) (N := 9) hx hb htg ig_6 hown hK hP 0 (oh_wg (by decide) (sX_0 hT)) rfl 3 (by decide) (htg _ q_261) (fun _ h9 => h9) rfl dX6_goAlong_78 ?_
  refine lv_iload_n hx hb dX6_goAlong_81 rfl (lv_at hl 2 rfl) ?_
  refine tm_Vv (As := [.int x1]) (rest := []) ⟨hx, hb, hml, hown, htg⟩ (e2_X5_standProps l D E G _ a C_20 hT x1) (cwV 1 htg (oh_gV q_924 q_925 q_926 q_68 q_927) rfl rfl rfl pdVX5_standProps ⟨Nat.le_of_ble_eq_true rfl, Nat.le_of_ble_eq_true rfl⟩) hK hP hD hG hS hA (va_recv hK hP (ci := 5) (q0 := 3) rfl (oh_wg (by decide) (sX_3 hT))) rfl hl.1 rfl (Nat.le_of_ble_eq_true rfl) dX6_goAlong_82 ⟨Nat.le_of_ble_eq_true rfl, Nat.le_of_ble_eq_true rfl⟩ (fun C_24 H locs hq_25 hP hD hS => ?_)
  obtain ⟨hT, f_26, hq_25⟩ := hq_25
  have hF := fr_tr hF f_26 (by decide) (by decide)
  refine W.widen (k := 0) (n := 0) (Nat.le_refl _) (Nat.le_refl _) ?_
  have t_27 := hT
  rw [hQ]
  exact W.vret hx hb hr (fun t ht hW => ⟨⟨C_24, rfl, ⟨hT, hF, (fun A w s hA hok hs hl hg ho => by have hAa := (absX_eq hA (fr_all f_4 10 15 (by decide))); have hsa : svX C_2 A w s := svX_eq hs (f_4.1 9 rfl (by decide)) (f_4.1 24 rfl (by decide)) (f_4.1 25 rfl (by decide)); have e3 : ga (C_2 28) ((3 : Int32)).toNatClampNeg = ga (C 16) ((0 : Int32)).toNatClampNeg := hq_3.2.2.2; have hw := hq_8.2 A w s hAa hok hsa; rw [e3, i6432] at hw; have hy := hw.1.mpr ⟨wk_in hx1 hl, (by rw [i6432]; exact hg), (by rw [i6432]; exact ho)⟩; obtain ⟨p0, p1, p2, p3⟩ := hw.2 hy; rw [show (ga (C_2 28)) 3 = ga (C 16) ((0 : Int32)).toNatClampNeg from e3] at p3; rw [show (ga (C_2 28)) 0 = 0 from hq_3.1, Int32.zero_add] at p0; rw [show (ga (C_2 28)) 1 = 0 from hq_3.2.1, Int32.zero_add] at p1; have hAs := (absX_eq (absX_eq (absX_eq (absX_eq (absX_eq (absX_eq hA (fr_all f_4 10 15 (by decide))) (fr_all f_9 10 15 (by decide))) (fun k k1 k2 => th_un e_12 (by omega))) (fun k k1 k2 => th_un e_15 (by omega))) (fun k k1 k2 => th_un e_18 (by omega))) (fun k k1 k2 => th_un e_21 (by omega))); have hps : pkX C_20 A w s := pkX_eq hs.1 (Eq.trans (th_un e_21 (by decide)) (Eq.trans (th_un e_18 (by decide)) (Eq.trans (th_un e_15 (by decide)) (Eq.trans (th_un e_12 (by decide)) (Eq.trans (f_9.1 9 rfl (by decide)) (f_4.1 9 rfl (by decide))))))); exact ⟨hq_25 A w s hAs hok hps hx1, (Eq.trans (show ga (C_24 16) ((0 : Int32)).toNatClampNeg = ga (C_7 28) ((3 : Int32)).toNatClampNeg from (by rw [show C_24 16 = C_20 16 from f_26.1 16 rfl (by decide), st_ga e_21, pk_un (by decide), st_ga e_18, pk_un (by decide), st_ga e_15, pk_un (by decide), st_ga e_12, pk_us])) (by rw [show ga (C_7 28) ((3 : Int32)).toNatClampNeg = _ from p3]; rfl)), (show ga (C_24 16) ((1 : Int32)).toNatClampNeg = ga (C 16) ((1 : Int32)).toNatClampNeg from (by rw [show C_24 16 = C_20 16 from f_26.1 16 rfl (by decide), st_ga e_21, pk_un (by decide), st_ga e_18, pk_un (by decide), st_ga e_15, pk_un (by decide), st_ga e_12, pk_un (by decide), show C_7 16 = C_2 16 from f_9.1 16 rfl (by decide), show C_2 16 = C 16 from f_4.1 16 rfl (by decide)])), (Eq.trans (show ga (C_24 16) ((2 : Int32)).toNatClampNeg = (ga (C_11 16) ((2 : Int32)).toNatClampNeg) + (ga (C_7 28) ((0 : Int32)).toNatClampNeg) from (by rw [show C_24 16 = C_20 16 from f_26.1 16 rfl (by decide), st_ga e_21, pk_un (by decide), st_ga e_18, pk_un (by decide), st_ga e_15, pk_us])) (by rw [show ga (C_11 16) ((2 : Int32)).toNatClampNeg = ga (C 16) ((2 : Int32)).toNatClampNeg from (show ga (C_11 16) ((2 : Int32)).toNatClampNeg = ga (C 16) ((2 : Int32)).toNatClampNeg from (by rw [st_ga e_12, pk_un (by decide), show C_7 16 = C_2 16 from f_9.1 16 rfl (by decide), show C_2 16 = C 16 from f_4.1 16 rfl (by decide)])), show ga (C_7 28) ((0 : Int32)).toNatClampNeg = _ from p0]; rfl)), (Eq.trans (show ga (C_24 16) ((3 : Int32)).toNatClampNeg = (ga (C_14 16) ((3 : Int32)).toNatClampNeg) + (ga (C_7 28) ((1 : Int32)).toNatClampNeg) from (by rw [show C_24 16 = C_20 16 from f_26.1 16 rfl (by decide), st_ga e_21, pk_un (by decide), st_ga e_18, pk_us])) (by rw [show ga (C_14 16) ((3 : Int32)).toNatClampNeg = ga (C 16) ((3 : Int32)).toNatClampNeg from (show ga (C_14 16) ((3 : Int32)).toNatClampNeg = ga (C 16) ((3 : Int32)).toNatClampNeg from (by rw [st_ga e_15, pk_un (by decide), st_ga e_12, pk_un (by decide), show C_7 16 = C_2 16 from f_9.1 16 rfl (by decide), show C_2 16 = C 16 from f_4.1 16 rfl (by decide)])), show ga (C_7 28) ((1 : Int32)).toNatClampNeg = _ from p1]; rfl)), (Eq.trans (show ga (C_24 16) ((4 : Int32)).toNatClampNeg = (ga (C_17 16) ((4 : Int32)).toNatClampNeg) + 1 from (by rw [show C_24 16 = C_20 16 from f_26.1 16 rfl (by decide), st_ga e_21, pk_us])) (by rw [show ga (C_17 16) ((4 : Int32)).toNatClampNeg = ga (C 16) ((4 : Int32)).toNatClampNeg from (show ga (C_17 16) ((4 : Int32)).toNatClampNeg = ga (C 16) ((4 : Int32)).toNatClampNeg from (by rw [st_ga e_18, pk_un (by decide), st_ga e_15, pk_un (by decide), st_ga e_12, pk_un (by decide), show C_7 16 = C_2 16 from f_9.1 16 rfl (by decide), show C_2 16 = C 16 from f_4.1 16 rfl (by decide)]))]; rfl)), (show ga (C_24 16) ((5 : Int32)).toNatClampNeg = ga (C 16) ((5 : Int32)).toNatClampNeg from (by rw [show C_24 16 = C_20 16 from f_26.1 16 rfl (by decide), st_ga e_21, pk_un (by decide), st_ga e_18, pk_un (by decide), st_ga e_15, pk_un (by decide), st_ga e_12, pk_un (by decide), show C_7 16 = C_2 16 from f_9.1 16 rfl (by decide), show C_2 16 = C 16 from f_4.1 16 rfl (by decide)])), (show ga (C_24 16) ((6 : Int32)).toNatClampNeg = ga (C 16) ((6 : Int32)).toNatClampNeg from (by rw [show C_24 16 = C_20 16 from f_26.1 16 rfl (by decide), st_ga e_21, pk_un (by decide), st_ga e_18, pk_un (by decide), st_ga e_15, pk_un (by decide), st_ga e_12, pk_un (by decide), show C_7 16 = C_2 16 from f_9.1 16 rfl (by decide), show C_2 16 = C 16 from f_4.1 16 rfl (by decide)]))⟩)⟩, ⟨by rw [ht]; exact hP, hD⟩⟩, hS.F ht⟩) hS.2.2 dX6_goAlong_85

theorem fr_y {A : LA} (hk : okA A) {w s f t r : Int32} (h : frA A w s f t r) (hr : ¬ r = -1) : (rg r 0 23 ∧ r < A 5 0 0) ∧ gsA A w s r.toNatClampNeg ∧ (aA A r.toNatClampNeg = f.toNatClampNeg ∨ bA A r.toNatClampNeg = f.toNatClampNeg) := by
  rcases h with ⟨e, _⟩ | ⟨i, li, e, q, _⟩
  · exact absurd e hr
  · have h1 := hk.n0 li
    have h2 := hk.1.1.2
    have e2 : r.toInt = (i : Int) := by rw [e]; exact nI_toInt (by omega)
    have e3 : r.toNatClampNeg = i := by
      show r.toInt.toNat = i
      omega
    rw [e3]
    exact ⟨⟨⟨by omega, by omega⟩, Int32.lt_iff_toInt_lt.mpr (by omega)⟩, q.1, q.2.1⟩

set_option maxHeartbeats 4000000 in
set_option maxRecDepth 100000 in
theorem e2_X6_step (l : Launch) (D : va_G) (E : Nat → ClassId) (G : Nat → Nat) (sz : Nat) (a : Nat → Nat) (C : Nat → va_E) (hT : TyX a E C) : Met l yX6_step (oh_w yX6_step cX6_step 3 (some .int)) ({ frames := 5, cells := 0, slots := 0, locals := 126 }) (oh_Pm D E G [.ref (a 0)] (oh_W 35 a C) sz) (va_Qi (fun r (u : Nat → va_E) => TyX a E u ∧ fr [(7, 8), (9, 10), (12, 13), (16, 17), (24, 29)] [] C u ∧ (∀ (A : LA) (T : TP), absX 10 C A → okA A → absTX 1 16 C T → (T 0 = 0 ∨ T 1 < A 5 0 2) → ∃ (B : LA) (U : TP), stpA A T r B U ∧ absX 10 u B ∧ absTX 1 16 u U)) (oh_B D (va_A (oh_W 35 a C) sz) (fun u => oh_W 35 a u)) (va_A (oh_W 35 a C) sz)) 0 0 (va_A (oh_W 35 a C) sz) := by
  refine Met.ofW (cc := cX6_step) (maxL := 3) (ret := (some .int)) (by decide) rfl ?_
  intro p e s m args below meth c s₁ B hml hv
  obtain ⟨rfl, hsz, hP, hK, hD0, hG⟩ := hv
  have hx := B.exec
  have hb := B.bytes
  have hr := B.returns
  have hts := atoms_spec (ws := (oh_w yX6_step cX6_step 3 (some .int))) B.pre
  have htg : ∀ w ∈ oh_t, w.before _ s = true := fun w h => hts w (List.mem_cons_of_mem _ h)
  have hown : s.vm.findClass RX6 = some m.cls := findClass_of_methodNamed B.named
  have hlocks := B.notSynchronized
  have hT0 := hT
  subst hsz
  have hD := hD0.self (sz := s.heap.size)
  generalize hAe : va_A (oh_W 35 a C) s.heap.size = A at hD hG ⊢
  have hA : ∀ q : Nat, s.heap.size ≤ q → A q := fun q h => by rw [← hAe]; exact Or.inr h
  have hS : va_S A s.heap s.heap [] := va_S.rf
  have hF : fr [(7, 8), (9, 10), (12, 13), (16, 17), (24, 29)] [] C C := fr_rf
  have hl := lv_entry ([.ref (a 0)]) (n := 3) (Nat.le_of_ble_eq_true rfl)
  rw [lg_entry_eq]
  generalize (lg_sl ([.ref (a 0)]) ++ List.replicate (3 - (lg_sl ([.ref (a 0)])).length) Slot.unset).toArray = ls at hl ⊢
  have hl : lv_has ls 3 [(0, .ref (a 0))] := hl
  refine oh_genQ (fun Q hQ => ?_)
  refine lv_aload_n hx hb dX6_step_0 rfl (lv_at hl 0 rfl) ?_
  refine va_get (D := D) (ci := 6) (v := .ref (a 1)) (C := RX6) (T := TX6) (N := 9) hx hb htg ig_6 hown hK hP 0 (oh_wg (by decide) (sX_0 hT)) rfl 0 (by decide) (htg _ q_258) (fun _ h9 => h9) rfl dX6_step_1 ?_
  refine va_get (D := D) (ci := 0) (v := .ref (a 16)) (C := RX0) (T := TX0) (N := 8) hx hb htg ig_0 hown hK hP 1 (oh_wg (by decide) (sX_1 hT)) rfl 6 (by decide) (htg _ q_112) (fun _ h9 => h9) rfl dX6_step_4 ?_
  refine lv_astore_n (lv' := [(1, .ref (a 16)), (0, .ref (a 0))]) hx hb dX6_step_7 rfl hl (by decide) rfl (fun ls hl => ?_)
  refine lv_aload_n hx hb dX6_step_8 rfl (lv_at hl 1 rfl) ?_
  refine va_get (D := D) (ci := 6) (v := .ref (a 1)) (C := RX6) (T := TX6) (N := 9) hx hb htg ig_6 hown hK hP 0 (oh_wg (by decide) (sX_0 hT)) rfl 0 (by decide) (htg _ q_258) (fun _ h9 => h9) rfl dX6_step_9 ?_
  refine va_get (D := D) (ci := 0) (v := .int (gi (C 1) 7)) (C := RX0) (T := TX0) (N := 8) hx hb htg ig_0 hown hK hP 1 (oh_wg (by decide) (sX_1 hT)) rfl 7 (by decide) (htg _ q_114) (fun _ h9 => h9) rfl dX6_step_12 ?_
  refine lv_if_eq (tgt := 27) hx hb dX6_step_15 (by decide) (fun (c_1 : (gi (C 1) 7) = 0) => ?_) (fun (c_1 : ¬ ((gi (C 1) 7) = 0)) => ?_)
  · refine lv_aload_n hx hb dX6_step_27 rfl (lv_at hl 1 rfl) ?_
    refine lv_bipush (v := (-5)) hx hb dX6_step_28 (by decide) ?_
    refine tm_V (As := [.int (-5)]) (rest := []) ⟨hx, hb, hml, hown, htg⟩ (c_X6_refuse l D E G _ a C hT ((-5) : Int32)) (cwV 1 htg (oh_gV q_296 q_298 q_0 q_66 q_299) rfl rfl rfl pdVX6_refuse ⟨Nat.le_of_ble_eq_true rfl, Nat.le_of_ble_eq_true rfl⟩) hK hP hD hG hS hA (va_recv hK hP (ci := 6) (q0 := 0) rfl (oh_wg (by decide) (sX_0 hT))) rfl hl.1 rfl (Nat.le_of_ble_eq_true rfl) dX6_step_30 ⟨Nat.le_of_ble_eq_true rfl, Nat.le_of_ble_eq_true rfl⟩ (fun r_2 C_3 H locs hq_4 hP hD hS => ?_)
    obtain ⟨hT, f_5, hq_4⟩ := hq_4
    have hF := fr_tr hF f_5 (by decide) (by decide)
    refine W.widen (k := 0) (n := 0) (Nat.le_refl _) (Nat.le_refl _) ?_
    have t_6 := hT
    rw [hQ]
    exact W.iret (v := r_2) hx hb hr (fun t ht hW => ⟨⟨r_2, C_3, rfl, ⟨hT, hF, (fun A T hA hok hTT hT1 => by obtain ⟨t0, t1, t2, t3, t4, t5, t6, t7⟩ := id hTT; exact ⟨A, T, Or.inl ⟨Or.inl (Eq.trans t0.symm c_1), hq_4, rfl, rfl⟩, (absX_eq hA (fr_all f_5 10 15 (by decide))), (absTX_eq hTT (congrArg (fun z => gi z 7) (f_5.1 1 rfl (by decide))) (f_5.1 16 rfl (by decide)))⟩)⟩, ⟨by rw [ht]; exact hP, hD⟩⟩, hS.F ht⟩) hS.2.2 dX6_step_33
  · refine lv_aload_n hx hb dX6_step_18 rfl (lv_at hl 0 rfl) ?_
    refine lv_iconst (v := 0) hx hb dX6_step_19 (by decide) ?_
    refine th_iald hx hb hK hP 16 (by decide) (sX_16 hT) (rg_in (rg_c (v := 0) (lo := 0) (hi := 0) (by decide)) (by decide)) dX6_step_20 ?_
    refine lv_aload_n hx hb dX6_step_21 rfl (lv_at hl 0 rfl) ?_
    refine lv_iconst (v := 1) hx hb dX6_step_22 (by decide) ?_
    refine th_iald hx hb hK hP 16 (by decide) (sX_16 hT) (rg_in (rg_c (v := 1) (lo := 1) (hi := 1) (by decide)) (by decide)) dX6_step_23 ?_
    refine lv_icmp_ne (tgt := 34) hx hb dX6_step_24 (by decide) (fun (c_7 : ¬ ((ga (C 16) ((0 : Int32)).toNatClampNeg) = (ga (C 16) ((1 : Int32)).toNatClampNeg))) => ?_) (fun (c_7 : (ga (C 16) ((0 : Int32)).toNatClampNeg) = (ga (C 16) ((1 : Int32)).toNatClampNeg)) => ?_)
    · refine lv_aload_n hx hb dX6_step_34 rfl (lv_at hl 1 rfl) ?_
      refine va_get (D := D) (ci := 6) (v := .ref (a 3)) (C := RX6) (T := TX6) (N := 9) hx hb htg ig_6 hown hK hP 0 (oh_wg (by decide) (sX_0 hT)) rfl 3 (by decide) (htg _ q_261) (fun _ h9 => h9) rfl dX6_step_35 ?_
      refine lv_aload_n hx hb dX6_step_38 rfl (lv_at hl 0 rfl) ?_
      refine lv_iconst (v := 5) hx hb dX6_step_39 (by decide) ?_
      refine th_iald hx hb hK hP 16 (by decide) (sX_16 hT) (rg_in (rg_c (v := 5) (lo := 5) (hi := 5) (by decide)) (by decide)) dX6_step_40 ?_
      refine lv_aload_n hx hb dX6_step_41 rfl (lv_at hl 0 rfl) ?_
      refine lv_bipush (v := 6) hx hb dX6_step_42 (by decide) ?_
      refine th_iald hx hb hK hP 16 (by decide) (sX_16 hT) (rg_in (rg_c (v := 6) (lo := 6) (hi := 6) (by decide)) (by decide)) dX6_step_44 ?_
      refine lv_aload_n hx hb dX6_step_45 rfl (lv_at hl 0 rfl) ?_
      refine lv_iconst (v := 0) hx hb dX6_step_46 (by decide) ?_
      refine th_iald hx hb hK hP 16 (by decide) (sX_16 hT) (rg_in (rg_c (v := 0) (lo := 0) (hi := 0) (by decide)) (by decide)) dX6_step_47 ?_
      refine lv_aload_n hx hb dX6_step_48 rfl (lv_at hl 0 rfl) ?_
      refine lv_iconst (v := 1) hx hb dX6_step_49 (by decide) ?_
      refine th_iald hx hb hK hP 16 (by decide) (sX_16 hT) (rg_in (rg_c (v := 1) (lo := 1) (hi := 1) (by decide)) (by decide)) dX6_step_50 ?_
      refine tm_V (As := [.int (ga (C 16) ((5 : Int32)).toNatClampNeg), .int (ga (C 16) ((6 : Int32)).toNatClampNeg), .int (ga (C 16) ((0 : Int32)).toNatClampNeg), .int (ga (C 16) ((1 : Int32)).toNatClampNeg)]) (rest := []) ⟨hx, hb, hml, hown, htg⟩ (e_X5_firstRoad l D E G _ a C hT (ga (C 16) ((5 : Int32)).toNatClampNeg) (ga (C 16) ((6 : Int32)).toNatClampNeg) (ga (C 16) ((0 : Int32)).toNatClampNeg) (ga (C 16) ((1 : Int32)).toNatClampNeg) (rg_w (tA_rdc (lo := 0) (hi := 4) (tX_16 hT0) (rg_in (rg_c (v := 5) (lo := 5) (hi := 5) (by decide)) (by decide)) (show _ = 5 by decide) (by decide)) (by decide)) (rg_w (tA_rdc (lo := 0) (hi := 15) (tX_16 hT0) (rg_in (rg_c (v := 0) (lo := 0) (hi := 0) (by decide)) (by decide)) (show _ = 0 by decide) (by decide)) (by decide)) (rg_w (tA_rdc (lo := 0) (hi := 15) (tX_16 hT0) (rg_in (rg_c (v := 1) (lo := 1) (hi := 1) (by decide)) (by decide)) (show _ = 1 by decide) (by decide)) (by decide))) (cwV 4 htg (oh_gV q_916 q_917 q_918 q_68 q_919) rfl rfl rfl pdVX5_firstRoad ⟨Nat.le_of_ble_eq_true rfl, Nat.le_of_ble_eq_true rfl⟩) hK hP hD hG hS hA (va_recv hK hP (ci := 5) (q0 := 3) rfl (oh_wg (by decide) (sX_3 hT))) rfl hl.1 rfl (Nat.le_of_ble_eq_true rfl) dX6_step_51 ⟨Nat.le_of_ble_eq_true rfl, Nat.le_of_ble_eq_true rfl⟩ (fun r_8 C_9 H locs hq_10 hP hD hS => ?_)
      obtain ⟨hT, f_11, hq_10⟩ := hq_10
      have hF := fr_tr hF f_11 (by decide) (by decide)
      refine W.widen (k := 0) (n := 0) (Nat.le_refl _) (Nat.le_refl _) ?_
      have t_12 := hT
      refine lv_istore_n (lv' := [(2, .int r_8), (1, .ref (a 16)), (0, .ref (a 0))]) hx hb dX6_step_54 rfl hl (by decide) rfl (fun ls hl => ?_)
      refine lv_iload_n hx hb dX6_step_55 rfl (lv_at hl 0 rfl) ?_
      refine lv_iconst (v := (-1)) hx hb dX6_step_56 (by decide) ?_
      refine lv_icmp_ne (tgt := 67) hx hb dX6_step_57 (by decide) (fun (c_13 : ¬ (r_8 = (-1))) => ?_) (fun (c_13 : r_8 = (-1)) => ?_)
      · refine lv_aload_n hx hb dX6_step_67 rfl (lv_at hl 2 rfl) ?_
        refine lv_iload_n hx hb dX6_step_68 rfl (lv_at hl 0 rfl) ?_
        refine tm_Vv (As := [.int r_8]) (rest := []) ⟨hx, hb, hml, hown, htg⟩ (e2_X6_goAlong l D E G _ a C_9 hT r_8 (rg_w (rn_nel (l' := 0) c_13 hq_10.1 (rg_c (v := (-1)) (lo := (-1)) (hi := (-1)) (by decide)) (by decide)) (by decide))) (cwV 1 htg (oh_gV q_920 q_922 q_28 q_66 q_923) rfl rfl rfl pdVX6_goAlong ⟨Nat.le_of_ble_eq_true rfl, Nat.le_of_ble_eq_true rfl⟩) hK hP hD hG hS hA (va_recv hK hP (ci := 6) (q0 := 0) rfl (oh_wg (by decide) (sX_0 hT))) rfl hl.1 rfl (Nat.le_of_ble_eq_true rfl) dX6_step_69 ⟨Nat.le_of_ble_eq_true rfl, Nat.le_of_ble_eq_true rfl⟩ (fun C_15 H locs hq_16 hP hD hS => ?_)
        obtain ⟨hT, f_17, hq_16⟩ := hq_16
        have hF := fr_tr hF f_17 (by decide) (by decide)
        refine W.widen (k := 0) (n := 0) (Nat.le_refl _) (Nat.le_refl _) ?_
        have t_18 := hT
        refine lv_iload_n hx hb dX6_step_72 rfl (lv_at hl 0 rfl) ?_
        rw [hQ]
        exact W.iret (v := r_8) hx hb hr (fun t ht hW => ⟨⟨r_8, C_15, rfl, ⟨hT, hF, (fun A T hA hok hTT hT1 => by obtain ⟨t0, t1, t2, t3, t4, t5, t6, t7⟩ := id hTT; have hno : ¬ (T 0 = 0 ∨ T 3 = T 4) := (fun z => z.elim (fun e => c_1 (Eq.trans t0 e)) (fun e => c_7 (Eq.trans t3 (Eq.trans e t4.symm)))); have hw : ga (C 16) ((5 : Int32)).toNatClampNeg < A 5 0 2 := (by rw [show ga (C 16) ((5 : Int32)).toNatClampNeg = T 1 from t1]; exact hT1.resolve_left (fun e => hno (Or.inl e))); have hfr := hq_10.2.1 A hA hok hw; rw [show ga (C 16) ((5 : Int32)).toNatClampNeg = T 1 from t1, show ga (C 16) ((6 : Int32)).toNatClampNeg = T 2 from t2, show ga (C 16) ((0 : Int32)).toNatClampNeg = T 3 from t3, show ga (C 16) ((1 : Int32)).toNatClampNeg = T 4 from t4] at hfr; obtain ⟨⟨ri, rl⟩, hg, ho⟩ := fr_y hok hfr c_13; have hsv := hq_10.2.2 A hA hw; rw [show ga (C 16) ((5 : Int32)).toNatClampNeg = T 1 from t1, show ga (C 16) ((6 : Int32)).toNatClampNeg = T 2 from t2] at hsv; have hA9 := (absX_eq hA (fr_all f_11 10 15 (by decide))); have e16 : C_9 16 = C 16 := (f_11.1 16 rfl (by decide)); have hgo := hq_16 A (T 1) (T 2) hA9 hok hsv rl hg (by rw [e16, show ga (C 16) ((0 : Int32)).toNatClampNeg = T 3 from t3]; exact ho); rw [e16] at hgo; exact ⟨_, _, Or.inr (Or.inr ⟨hno, c_13, hfr, rfl, rfl⟩), hgo.1, st_T hTT (Eq.trans (congrArg (fun z => gi z 7) (Eq.trans (f_17.1 1 rfl (by decide)) (f_11.1 1 rfl (by decide)))) rfl) hgo.2⟩)⟩, ⟨by rw [ht]; exact hP, hD⟩⟩, hS.F ht⟩) hS.2.2 dX6_step_73
      · refine lv_aload_n hx hb dX6_step_60 rfl (lv_at hl 2 rfl) ?_
        refine lv_bipush (v := (-5)) hx hb dX6_step_61 (by decide) ?_
        refine tm_V (As := [.int (-5)]) (rest := []) ⟨hx, hb, hml, hown, htg⟩ (c_X6_refuse l D E G _ a C_9 hT ((-5) : Int32)) (cwV 1 htg (oh_gV q_296 q_298 q_0 q_66 q_299) rfl rfl rfl pdVX6_refuse ⟨Nat.le_of_ble_eq_true rfl, Nat.le_of_ble_eq_true rfl⟩) hK hP hD hG hS hA (va_recv hK hP (ci := 6) (q0 := 0) rfl (oh_wg (by decide) (sX_0 hT))) rfl hl.1 rfl (Nat.le_of_ble_eq_true rfl) dX6_step_63 ⟨Nat.le_of_ble_eq_true rfl, Nat.le_of_ble_eq_true rfl⟩ (fun r_19 C_20 H locs hq_21 hP hD hS => ?_)
        obtain ⟨hT, f_22, hq_21⟩ := hq_21
        have hF := fr_tr hF f_22 (by decide) (by decide)
        refine W.widen (k := 0) (n := 0) (Nat.le_refl _) (Nat.le_refl _) ?_
        have t_23 := hT
        rw [hQ]
        exact W.iret (v := r_19) hx hb hr (fun t ht hW => ⟨⟨r_19, C_20, rfl, ⟨hT, hF, (fun A T hA hok hTT hT1 => by obtain ⟨t0, t1, t2, t3, t4, t5, t6, t7⟩ := id hTT; have hno : ¬ (T 0 = 0 ∨ T 3 = T 4) := (fun z => z.elim (fun e => c_1 (Eq.trans t0 e)) (fun e => c_7 (Eq.trans t3 (Eq.trans e t4.symm)))); have hw : ga (C 16) ((5 : Int32)).toNatClampNeg < A 5 0 2 := (by rw [show ga (C 16) ((5 : Int32)).toNatClampNeg = T 1 from t1]; exact hT1.resolve_left (fun e => hno (Or.inl e))); have hfr := hq_10.2.1 A hA hok hw; rw [show ga (C 16) ((5 : Int32)).toNatClampNeg = T 1 from t1, show ga (C 16) ((6 : Int32)).toNatClampNeg = T 2 from t2, show ga (C 16) ((0 : Int32)).toNatClampNeg = T 3 from t3, show ga (C 16) ((1 : Int32)).toNatClampNeg = T 4 from t4] at hfr; rw [c_13] at hfr; exact ⟨A, T, Or.inr (Or.inl ⟨hno, hfr, hq_21, rfl, rfl⟩), (absX_eq (absX_eq hA (fr_all f_11 10 15 (by decide))) (fr_all f_22 10 15 (by decide))), (absTX_eq hTT (congrArg (fun z => gi z 7) (Eq.trans (f_22.1 1 rfl (by decide)) (f_11.1 1 rfl (by decide)))) (Eq.trans (f_22.1 16 rfl (by decide)) (f_11.1 16 rfl (by decide))))⟩)⟩, ⟨by rw [ht]; exact hP, hD⟩⟩, hS.F ht⟩) hS.2.2 dX6_step_66
    · refine lv_aload_n hx hb dX6_step_27 rfl (lv_at hl 1 rfl) ?_
      refine lv_bipush (v := (-5)) hx hb dX6_step_28 (by decide) ?_
      refine tm_V (As := [.int (-5)]) (rest := []) ⟨hx, hb, hml, hown, htg⟩ (c_X6_refuse l D E G _ a C hT ((-5) : Int32)) (cwV 1 htg (oh_gV q_296 q_298 q_0 q_66 q_299) rfl rfl rfl pdVX6_refuse ⟨Nat.le_of_ble_eq_true rfl, Nat.le_of_ble_eq_true rfl⟩) hK hP hD hG hS hA (va_recv hK hP (ci := 6) (q0 := 0) rfl (oh_wg (by decide) (sX_0 hT))) rfl hl.1 rfl (Nat.le_of_ble_eq_true rfl) dX6_step_30 ⟨Nat.le_of_ble_eq_true rfl, Nat.le_of_ble_eq_true rfl⟩ (fun r_24 C_25 H locs hq_26 hP hD hS => ?_)
      obtain ⟨hT, f_27, hq_26⟩ := hq_26
      have hF := fr_tr hF f_27 (by decide) (by decide)
      refine W.widen (k := 0) (n := 0) (Nat.le_refl _) (Nat.le_refl _) ?_
      have t_28 := hT
      rw [hQ]
      exact W.iret (v := r_24) hx hb hr (fun t ht hW => ⟨⟨r_24, C_25, rfl, ⟨hT, hF, (fun A T hA hok hTT hT1 => by obtain ⟨t0, t1, t2, t3, t4, t5, t6, t7⟩ := id hTT; exact ⟨A, T, Or.inl ⟨Or.inr (Eq.trans t3.symm (Eq.trans c_7 t4)), hq_26, rfl, rfl⟩, (absX_eq hA (fr_all f_27 10 15 (by decide))), (absTX_eq hTT (congrArg (fun z => gi z 7) (f_27.1 1 rfl (by decide))) (f_27.1 16 rfl (by decide)))⟩)⟩, ⟨by rw [ht]; exact hP, hD⟩⟩, hS.F ht⟩) hS.2.2 dX6_step_33
