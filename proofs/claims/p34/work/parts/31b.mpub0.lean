theorem oh_row64 {x : Int32} {k : Int64} {k' : Int32} (hk : k = Int32.toInt64 k') (h : ¬ ((0 : Int64) ≤ Int32.toInt64 x ∧ Int32.toInt64 x ≤ k)) : ¬ ((0 : Int32) ≤ x ∧ x ≤ k') := by
  intro q
  refine h ⟨?_, ?_⟩
  · have := Int32.le_iff_toInt_le.mp q.1
    exact Int64.le_iff_toInt_le.mpr (by rw [oh_l32]; exact this)
  · have := Int32.le_iff_toInt_le.mp q.2
    rw [hk]
    exact Int64.le_iff_toInt_le.mpr (by rw [oh_l32, oh_l32]; exact this)
/-- a shelf's own place is written: another kind than a bridge -/
theorem oh_relS1 {C C2 : Nat → va_E} {n : Nat} {cA : ClassId} {i v : Int32} (h : RelS C) (e1 : ga (C2 1) = upd (ga (C 1)) i.toNatClampNeg v) (e6 : C2 6 = C 6) (hv : ¬ v = 2) : RelS C2 := by
  intro s hs c
  rw [e1] at c
  by_cases hq : s = i.toNatClampNeg
  · rw [hq, pk_us] at c
    exact absurd c hv
  · rw [pk_un hq] at c
    rw [e6]
    exact h s hs c
theorem oh_relS2 {C C2 : Nat → va_E} {i v b : Int32} (h : RelS C) (e1 : ga (C2 1) = upd (ga (C 1)) i.toNatClampNeg v) (e6 : ga (C2 6) = upd (ga (C 6)) i.toNatClampNeg b) (hv : v = 2 → 0 ≤ b.toInt) : RelS C2 := by
  intro s hs c
  rw [e1] at c
  rw [e6]
  by_cases hq : s = i.toNatClampNeg
  · rw [hq, pk_us] at c
    rw [hq, pk_us]
    exact hv c
  · rw [pk_un hq] at c
    rw [pk_un hq]
    exact h s hs c

set_option maxHeartbeats 4000000 in
set_option maxRecDepth 100000 in
theorem c_X7_row (l : Launch) (D : va_G) (E : Nat → ClassId) (G : Nat → Nat) (sz : Nat) (a : Nat → Nat) (C : Nat → va_E) (n : Nat) (hn : 74 ≤ n) (hT : TyM a E C) (x1 : Int32) (x2 : Int32) (x3 : Int32) (hR : RelM C) : Met l yX7_row (oh_w yX7_row cX7_row 5 (some .int)) ({ frames := 1, cells := 0, slots := 0, locals := 25 }) (oh_Pm D E G [.ref (a 0), .int x1, .int x2, .int x3] (oh_W n a C) sz) (va_Qi (fun r (u : Nat → va_E) => TyM a E u ∧ fr [(1, 2), (2, 3), (3, 4), (8, 9), (16, 24)] [] C u ∧ (RelM u) ∧ (r = oh_row x1 x2 x3)) (oh_B D (va_A (oh_W n a C) sz) (fun u => oh_W n a u)) (va_A (oh_W n a C) sz)) 0 0 (va_A (oh_W n a C) sz) := by
  refine Met.ofW (cc := cX7_row) (maxL := 5) (ret := (some .int)) (by decide) rfl ?_
  intro p e s m args below meth c s₁ B hml hv
  obtain ⟨rfl, hsz, hP, hK, hD0, hG⟩ := hv
  have hx := B.exec
  have hb := B.bytes
  have hr := B.returns
  have hts := atoms_spec (ws := (oh_w yX7_row cX7_row 5 (some .int))) B.pre
  have htg : ∀ w ∈ oh_t, w.before _ s = true := fun w h => hts w (List.mem_cons_of_mem _ h)
  have hown : s.vm.findClass RX7 = some m.cls := findClass_of_methodNamed B.named
  have hlocks := B.notSynchronized
  have hT0 := hT
  subst hsz
  have hD := hD0.self (sz := s.heap.size)
  generalize hAe : va_A (oh_W n a C) s.heap.size = A at hD hG ⊢
  have hA : ∀ q : Nat, s.heap.size ≤ q → A q := fun q h => by rw [← hAe]; exact Or.inr h
  have hS : va_S A s.heap s.heap [] := va_S.rf
  have hF : fr [(1, 2), (2, 3), (3, 4), (8, 9), (16, 24)] [] C C := fr_rf
  have hl := lv_entry ([.ref (a 0), .int x1, .int x2, .int x3]) (n := 5) (Nat.le_of_ble_eq_true rfl)
  rw [lg_entry_eq]
  generalize (lg_sl ([.ref (a 0), .int x1, .int x2, .int x3]) ++ List.replicate (5 - (lg_sl ([.ref (a 0), .int x1, .int x2, .int x3])).length) Slot.unset).toArray = ls at hl ⊢
  have hl : lv_has ls 5 [(0, .ref (a 0)), (1, .int x1), (2, .int x2), (3, .int x3)] := hl
  refine oh_genQ (fun Q hQ => ?_)
  refine lv_iload_n hx hb dX7_row_0 rfl (lv_at hl 1 rfl) ?_
  refine lv_i2l (v := Int32.toInt64 x1) hx hb dX7_row_1 (by rfl) ?_
  refine lv_lconst (v := 0) hx hb dX7_row_2 (by decide) ?_
  refine lv_ldc2 (v := 7) hx hb hown (htg _ q_1065) dX7_row_3 ?_
  refine tq_S (As := [.long (Int32.toInt64 x1), .long 0, .long 7]) (rest := []) (ws := []) ⟨hx, hb, hml, hown, htg⟩ (c_X7_in l D E G (Int32.toInt64 x1) (0 : Int64) (7 : Int64)) (va_cwS 3 htg (oh_gS q_1066 q_1067 q_73 q_1068) rfl rfl rfl pdX7_in ⟨Nat.le_of_ble_eq_true rfl, Nat.le_of_ble_eq_true rfl⟩) hK va_nil hG hS rfl hl.1 rfl (Nat.le_of_ble_eq_true rfl) dX7_row_6 ⟨Nat.le_of_ble_eq_true rfl, Nat.le_of_ble_eq_true rfl⟩ (fun r_1 hq_2 => ?_)
  refine lv_if_eq (tgt := 36) hx hb dX7_row_9 (by decide) (fun (c_3 : r_1 = 0) => ?_) (fun (c_3 : ¬ (r_1 = 0)) => ?_)
  · have u_4 := hq_2.2.2 c_3
    refine lv_aload_n hx hb dX7_row_36 rfl (lv_at hl 0 rfl) ?_
    refine lv_bipush (v := (-2)) hx hb dX7_row_37 (by decide) ?_
    refine tm_V (As := [.int (-2)]) (rest := []) ⟨hx, hb, hml, hown, htg⟩ (c_X7_refuse l D E G _ a C n hn hT ((-2) : Int32) (rg_w (rg_c (v := (-2)) (lo := (-2)) (hi := (-2)) (by decide)) (by decide))) (cwV 1 htg (oh_gV q_1071 q_1073 q_29 q_73 q_1074) rfl rfl rfl pdVX7_refuse ⟨Nat.le_of_ble_eq_true rfl, Nat.le_of_ble_eq_true rfl⟩) hK hP hD hG hS hA (va_recv hK hP (ci := 7) (q0 := 0) rfl (oh_wg (Nat.lt_of_lt_of_le (by decide) hn) (sM_0 hT))) rfl hl.1 rfl (Nat.le_of_ble_eq_true rfl) dX7_row_39 ⟨Nat.le_of_ble_eq_true rfl, Nat.le_of_ble_eq_true rfl⟩ (fun r_5 C_6 H locs hq_7 hP hD hS => ?_)
    obtain ⟨hT, f_8, hq_7⟩ := hq_7
    have hF := fr_tr hF f_8 (by decide) (by decide)
    refine W.widen (k := 0) (n := 0) (Nat.le_refl _) (Nat.le_refl _) ?_
    have t_9 := hT
    rw [hQ]
    exact W.iret (v := r_5) hx hb hr (fun t ht hW => ⟨⟨r_5, C_6, rfl, ⟨hT, hF, ⟨⟨hR.1.fr hF (by decide), (RelS.fr hR.2 f_8 (by decide))⟩, (oh_row2 hq_7 (Or.inl (oh_row64 (k' := 7) rfl u_4)))⟩⟩, ⟨by rw [ht]; exact hP, hD⟩⟩, hS.F ht⟩) hS.2.2 dX7_row_42
  · have u_10 := hq_2.2.1 c_3
    refine lv_iload_n hx hb dX7_row_12 rfl (lv_at hl 2 rfl) ?_
    refine lv_i2l (v := Int32.toInt64 x2) hx hb dX7_row_13 (by rfl) ?_
    refine lv_lconst (v := 0) hx hb dX7_row_14 (by decide) ?_
    refine lv_ldc2 (v := 4) hx hb hown (htg _ q_1069) dX7_row_15 ?_
    refine tq_S (As := [.long (Int32.toInt64 x2), .long 0, .long 4]) (rest := []) (ws := []) ⟨hx, hb, hml, hown, htg⟩ (c_X7_in l D E G (Int32.toInt64 x2) (0 : Int64) (4 : Int64)) (va_cwS 3 htg (oh_gS q_1066 q_1067 q_73 q_1068) rfl rfl rfl pdX7_in ⟨Nat.le_of_ble_eq_true rfl, Nat.le_of_ble_eq_true rfl⟩) hK va_nil hG hS rfl hl.1 rfl (Nat.le_of_ble_eq_true rfl) dX7_row_18 ⟨Nat.le_of_ble_eq_true rfl, Nat.le_of_ble_eq_true rfl⟩ (fun r_11 hq_12 => ?_)
    refine lv_if_eq (tgt := 36) hx hb dX7_row_21 (by decide) (fun (c_13 : r_11 = 0) => ?_) (fun (c_13 : ¬ (r_11 = 0)) => ?_)
    · have u_14 := hq_12.2.2 c_13
      refine lv_aload_n hx hb dX7_row_36 rfl (lv_at hl 0 rfl) ?_
      refine lv_bipush (v := (-2)) hx hb dX7_row_37 (by decide) ?_
      refine tm_V (As := [.int (-2)]) (rest := []) ⟨hx, hb, hml, hown, htg⟩ (c_X7_refuse l D E G _ a C n hn hT ((-2) : Int32) (rg_w (rg_c (v := (-2)) (lo := (-2)) (hi := (-2)) (by decide)) (by decide))) (cwV 1 htg (oh_gV q_1071 q_1073 q_29 q_73 q_1074) rfl rfl rfl pdVX7_refuse ⟨Nat.le_of_ble_eq_true rfl, Nat.le_of_ble_eq_true rfl⟩) hK hP hD hG hS hA (va_recv hK hP (ci := 7) (q0 := 0) rfl (oh_wg (Nat.lt_of_lt_of_le (by decide) hn) (sM_0 hT))) rfl hl.1 rfl (Nat.le_of_ble_eq_true rfl) dX7_row_39 ⟨Nat.le_of_ble_eq_true rfl, Nat.le_of_ble_eq_true rfl⟩ (fun r_15 C_16 H locs hq_17 hP hD hS => ?_)
      obtain ⟨hT, f_18, hq_17⟩ := hq_17
      have hF := fr_tr hF f_18 (by decide) (by decide)
      refine W.widen (k := 0) (n := 0) (Nat.le_refl _) (Nat.le_refl _) ?_
      have t_19 := hT
      rw [hQ]
      exact W.iret (v := r_15) hx hb hr (fun t ht hW => ⟨⟨r_15, C_16, rfl, ⟨hT, hF, ⟨⟨hR.1.fr hF (by decide), (RelS.fr hR.2 f_18 (by decide))⟩, (oh_row2 hq_17 (Or.inr (Or.inl (oh_row64 (k' := 4) rfl u_14))))⟩⟩, ⟨by rw [ht]; exact hP, hD⟩⟩, hS.F ht⟩) hS.2.2 dX7_row_42
    · have u_20 := hq_12.2.1 c_13
      refine lv_iload_n hx hb dX7_row_24 rfl (lv_at hl 3 rfl) ?_
      refine lv_i2l (v := Int32.toInt64 x3) hx hb dX7_row_25 (by rfl) ?_
      refine lv_lconst (v := 0) hx hb dX7_row_26 (by decide) ?_
      refine lv_ldc2 (v := 40) hx hb hown (htg _ q_1070) dX7_row_27 ?_
      refine tq_S (As := [.long (Int32.toInt64 x3), .long 0, .long 40]) (rest := []) (ws := []) ⟨hx, hb, hml, hown, htg⟩ (c_X7_in l D E G (Int32.toInt64 x3) (0 : Int64) (40 : Int64)) (va_cwS 3 htg (oh_gS q_1066 q_1067 q_73 q_1068) rfl rfl rfl pdX7_in ⟨Nat.le_of_ble_eq_true rfl, Nat.le_of_ble_eq_true rfl⟩) hK va_nil hG hS rfl hl.1 rfl (Nat.le_of_ble_eq_true rfl) dX7_row_30 ⟨Nat.le_of_ble_eq_true rfl, Nat.le_of_ble_eq_true rfl⟩ (fun r_21 hq_22 => ?_)
      refine lv_if_ne (tgt := 43) hx hb dX7_row_33 (by decide) (fun (c_23 : ¬ (r_21 = 0)) => ?_) (fun (c_23 : r_21 = 0) => ?_)
      · have u_24 := hq_22.2.1 c_23
        refine lv_aload_n hx hb dX7_row_43 rfl (lv_at hl 0 rfl) ?_
        refine va_get (D := D) (ci := 7) (v := .ref (a 1)) (C := RX7) (T := TX7) (N := 29) hx hb htg ig_7 hown hK hP 0 (oh_wg (Nat.lt_of_lt_of_le (by decide) hn) (sM_0 hT)) rfl 0 (by decide) (htg _ q_973) (fun _ h9 => h9) rfl dX7_row_44 ?_
        refine lv_iload_n hx hb dX7_row_47 rfl (lv_at hl 1 rfl) ?_
        refine lv_iconst (v := 1) hx hb dX7_row_48 (by decide) ?_
        have n_25 : vp_in x1 8 := (rg_in (rg_il (rgL_i (rg_il (rnL_leu u_10.2 (rnL_lel u_10.1 (rgL_c (v := 0) (lo := 0) (hi := 0) (by decide)) (rgL_i (rg_any _))) (rgL_c (v := 7) (lo := 7) (hi := 7) (by decide)))))) (by decide))
        refine th_iast (T := TyM a E) (Rl := fr [(1, 2), (2, 3), (3, 4), (8, 9), (16, 24)] [] C) hx hb hK hP hD hS 1 (Nat.lt_of_lt_of_le (by decide) hn) (sM_1 hT) n_25 (hT.up 1 (by decide) (tA_upd (tM_1 hT) (tA_stc (Nat.mod_one _) (rg_c (v := 1) (lo := 1) (hi := 1) (by decide)) (by decide)))) (fr_st hF (by decide) (by decide)) dX7_row_49 (fun C_26 H locs e_27 hT hF hP hD hS => ?_)
        have t_28 := hT
        refine lv_aload_n hx hb dX7_row_50 rfl (lv_at hl 0 rfl) ?_
        refine va_get (D := D) (ci := 7) (v := .ref (a 2)) (C := RX7) (T := TX7) (N := 29) hx hb htg ig_7 hown hK hP 0 (oh_wg (Nat.lt_of_lt_of_le (by decide) hn) (sM_0 hT)) rfl 1 (by decide) (htg _ q_974) (fun _ h9 => h9) rfl dX7_row_51 ?_
        refine lv_iload_n hx hb dX7_row_54 rfl (lv_at hl 1 rfl) ?_
        refine lv_iload_n hx hb dX7_row_55 rfl (lv_at hl 2 rfl) ?_
        have n_29 : vp_in x1 8 := (rg_in (rg_il (rgL_i (rg_il (rnL_leu u_10.2 (rnL_lel u_10.1 (rgL_c (v := 0) (lo := 0) (hi := 0) (by decide)) (rgL_i (rg_any _))) (rgL_c (v := 7) (lo := 7) (hi := 7) (by decide)))))) (by decide))
        refine th_iast (T := TyM a E) (Rl := fr [(1, 2), (2, 3), (3, 4), (8, 9), (16, 24)] [] C) hx hb hK hP hD hS 2 (Nat.lt_of_lt_of_le (by decide) hn) (sM_2 hT) n_29 (hT.up 2 (by decide) (tA_upd (tM_2 hT) tA_any)) (fr_st hF (by decide) (by decide)) dX7_row_56 (fun C_30 H locs e_31 hT hF hP hD hS => ?_)
        have t_32 := hT
        refine lv_aload_n hx hb dX7_row_57 rfl (lv_at hl 0 rfl) ?_
        refine va_get (D := D) (ci := 7) (v := .ref (a 3)) (C := RX7) (T := TX7) (N := 29) hx hb htg ig_7 hown hK hP 0 (oh_wg (Nat.lt_of_lt_of_le (by decide) hn) (sM_0 hT)) rfl 2 (by decide) (htg _ q_975) (fun _ h9 => h9) rfl dX7_row_58 ?_
        refine lv_iload_n hx hb dX7_row_61 rfl (lv_at hl 1 rfl) ?_
        refine lv_iload_n hx hb dX7_row_62 rfl (lv_at hl 3 rfl) ?_
        have n_33 : vp_in x1 8 := (rg_in (rg_il (rgL_i (rg_il (rnL_leu u_10.2 (rnL_lel u_10.1 (rgL_c (v := 0) (lo := 0) (hi := 0) (by decide)) (rgL_i (rg_any _))) (rgL_c (v := 7) (lo := 7) (hi := 7) (by decide)))))) (by decide))
        refine th_iast (T := TyM a E) (Rl := fr [(1, 2), (2, 3), (3, 4), (8, 9), (16, 24)] [] C) hx hb hK hP hD hS 3 (Nat.lt_of_lt_of_le (by decide) hn) (sM_3 hT) n_33 (hT.up 3 (by decide) (tA_upd (tM_3 hT) (tA_stc (Nat.mod_one _) (rg_il (rgL_i (rg_il (rnL_leu u_24.2 (rnL_lel u_24.1 (rgL_c (v := 0) (lo := 0) (hi := 0) (by decide)) (rgL_i (rg_any _))) (rgL_c (v := 40) (lo := 40) (hi := 40) (by decide)))))) (by decide)))) (fr_st hF (by decide) (by decide)) dX7_row_63 (fun C_34 H locs e_35 hT hF hP hD hS => ?_)
        have t_36 := hT
        refine lv_iconst (v := 0) hx hb dX7_row_64 (by decide) ?_
        refine lv_istore (lv' := [(4, .int 0), (0, .ref (a 0)), (1, .int x1), (2, .int x2), (3, .int x3)]) hx hb dX7_row_65 hl (by decide) rfl (fun ls hl => ?_)
        have L_67 : ∀ (d : Nat) (K67 : Nat → va_E) (z67_4 : Int32) (H : Heap) (locs : List Loc) (ls : Array Slot), (40 - z67_4.toInt).toNat = d → rg z67_4 0 40 → TyM a E K67 → fr [(1, 2), (2, 3), (3, 4), (8, 9), (16, 24)] [] C K67 → fr [(16, 24)] [] C_34 K67 → va_P D vwCl (oh_W n a K67) H → va_D A (oh_W n a K67) → va_S A s.heap H locs → lv_has ls 5 [(4, .int z67_4), (0, .ref (a 0)), (1, .int x1), (2, .int x2), (3, .int x3)] → W p l e ({ frames := 1, cells := 0, slots := 0, locals := 25 }) s m (([.ref (a 0), .int x1, .int x2, .int x3] : List Value).toArray) below meth c H locs 0 0 Q (F0 m 67 ls []) := by
          intro d
          induction d using Nat.strongRecOn with
          | ind d ih_67 =>
          intro K67 z67_4 H locs ls hd_67 hz67_4 hT hF hLF_67 hP hD hS hl
          have t_37 := hT
          refine lv_iload hx hb dX7_row_67 (lv_at hl 0 rfl) ?_
          refine lv_bipush (v := 40) hx hb dX7_row_69 (by decide) ?_
          refine lv_icmp_ge (tgt := 90) hx hb dX7_row_71 (by decide) (fun (c_38 : (40 : Int32) ≤ z67_4) => ?_) (fun (c_38 : ¬ ((40 : Int32) ≤ z67_4)) => ?_)
          · refine lv_iconst (v := 1) hx hb dX7_row_90 (by decide) ?_
            rw [hQ]
            exact W.iret (v := 1) hx hb hr (fun t ht hW => ⟨⟨1, K67, rfl, ⟨hT, hF, ⟨⟨hR.1.fr hF (by decide), oh_relS1 (n := 0) (cA := E 0) (i := x1) (v := 1) hR.2 (by rw [(Eq.trans (hLF_67.1 1 rfl (by decide)) (Eq.trans (th_un e_35 (by decide)) (th_un e_31 (by decide)))), (st_ga e_27)]) (Eq.trans (hLF_67.1 6 rfl (by decide)) (Eq.trans (th_un e_35 (by decide)) (Eq.trans (th_un e_31 (by decide)) (th_un e_27 (by decide))))) (by decide)⟩, (oh_row1 (rg_w (rg_il (rgL_i (rg_il (rnL_leu u_10.2 (rnL_lel u_10.1 (rgL_c (v := 0) (lo := 0) (hi := 0) (by decide)) (rgL_i (rg_any _))) (rgL_c (v := 7) (lo := 7) (hi := 7) (by decide)))))) (by decide)) (rg_w (rg_il (rgL_i (rg_il (rnL_leu u_20.2 (rnL_lel u_20.1 (rgL_c (v := 0) (lo := 0) (hi := 0) (by decide)) (rgL_i (rg_any _))) (rgL_c (v := 4) (lo := 4) (hi := 4) (by decide)))))) (by decide)) (rg_w (rg_il (rgL_i (rg_il (rnL_leu u_24.2 (rnL_lel u_24.1 (rgL_c (v := 0) (lo := 0) (hi := 0) (by decide)) (rgL_i (rg_any _))) (rgL_c (v := 40) (lo := 40) (hi := 40) (by decide)))))) (by decide)))⟩⟩, ⟨by rw [ht]; exact hP, hD⟩⟩, hS.F ht⟩) hS.2.2 dX7_row_91
          · refine lv_aload_n hx hb dX7_row_74 rfl (lv_at hl 1 rfl) ?_
            refine va_get (D := D) (ci := 7) (v := .ref (a 4)) (C := RX7) (T := TX7) (N := 29) hx hb htg ig_7 hown hK hP 0 (oh_wg (Nat.lt_of_lt_of_le (by decide) hn) (sM_0 hT)) rfl 3 (by decide) (htg _ q_976) (fun _ h9 => h9) rfl dX7_row_75 ?_
            refine lv_iload_n hx hb dX7_row_78 rfl (lv_at hl 2 rfl) ?_
            have n_39 : vp_in x1 8 := (rg_in (rg_il (rgL_i (rg_il (rnL_leu u_10.2 (rnL_lel u_10.1 (rgL_c (v := 0) (lo := 0) (hi := 0) (by decide)) (rgL_i (rg_any _))) (rgL_c (v := 7) (lo := 7) (hi := 7) (by decide)))))) (by decide))
            have b_40 : (x1).toNatClampNeg < 8 := vp_lt n_39
            refine th_aald hx hb hK hP 4 3 (Nat.lt_of_lt_of_le (by decide) hn) (sM_4 hT) rfl n_39 dX7_row_79 ?_
            refine lv_iload hx hb dX7_row_80 (lv_at hl 0 rfl) ?_
            refine lv_lconst (v := 0) hx hb dX7_row_82 (by decide) ?_
            have n_41 : vp_in z67_4 40 := (rg_in (rn_ltu (u' := 39) (Int32.not_le.mp c_38) hz67_4 (rg_c (v := 40) (lo := 40) (hi := 40) (by decide)) (by decide)) (by decide))
            refine th_last (T := TyM a E) (Rl := fr [(1, 2), (2, 3), (3, 4), (8, 9), (16, 24)] [] C) hx hb hK hP hD hS (16 + (x1).toNatClampNeg) (lt_blk b_40 hn (by decide)) (hT.brows b_40) n_41 (hT.uprows b_40 rfl) (fr_st hF (by omega) (inR_of (p := (16, 24)) (by decide) (by show 16 ≤ _; omega) (by show _ < 24; omega))) dX7_row_83 (fun C_42 H locs e_43 hT hF hP hD hS => ?_)
            have t_44 := hT
            refine lv_iinc (v := z67_4 + 1) (lv' := [(4, .int (z67_4 + 1)), (0, .ref (a 0)), (1, .int x1), (2, .int x2), (3, .int x3)]) hx hb dX7_row_84 hl (k := 0) rfl (by rfl) (by decide) rfl (fun ls hl => ?_)
            refine lv_goto (tgt := 67) hx hb dX7_row_87 (by decide) ?_
            exact ih_67 _ (hd_67 ▸ mu_up 40 (rn_ltu (u' := 39) (Int32.not_le.mp c_38) hz67_4 (rg_c (v := 40) (lo := 40) (hi := 40) (by decide)) (by decide)) (by decide)) C_42 (z67_4 + 1) _ _ ls rfl (rg_w (rg_add (lo := 1) (hi := 40) (rn_ltu (u' := 39) (Int32.not_le.mp c_38) hz67_4 (rg_c (v := 40) (lo := 40) (hi := 40) (by decide)) (by decide)) (rg_c (v := 1) (lo := 1) (hi := 1) (by decide)) (by decide)) (by decide)) hT hF (fr_ste hLF_67 e_43 (by omega) (inR_of (p := (16, 24)) (by decide) (by show 16 ≤ _; omega) (by show _ < 24; omega))) hP hD hS (lv_sub hl [0, 1, 2, 3, 4] rfl)
        exact L_67 _ C_34 0 _ _ ls rfl (rg_w (rg_c (v := 0) (lo := 0) (hi := 0) (by decide)) (by decide)) hT hF fr_rf hP hD hS (lv_sub hl [0, 1, 2, 3, 4] rfl)
      · have u_45 := hq_22.2.2 c_23
        refine lv_aload_n hx hb dX7_row_36 rfl (lv_at hl 0 rfl) ?_
        refine lv_bipush (v := (-2)) hx hb dX7_row_37 (by decide) ?_
        refine tm_V (As := [.int (-2)]) (rest := []) ⟨hx, hb, hml, hown, htg⟩ (c_X7_refuse l D E G _ a C n hn hT ((-2) : Int32) (rg_w (rg_c (v := (-2)) (lo := (-2)) (hi := (-2)) (by decide)) (by decide))) (cwV 1 htg (oh_gV q_1071 q_1073 q_29 q_73 q_1074) rfl rfl rfl pdVX7_refuse ⟨Nat.le_of_ble_eq_true rfl, Nat.le_of_ble_eq_true rfl⟩) hK hP hD hG hS hA (va_recv hK hP (ci := 7) (q0 := 0) rfl (oh_wg (Nat.lt_of_lt_of_le (by decide) hn) (sM_0 hT))) rfl hl.1 rfl (Nat.le_of_ble_eq_true rfl) dX7_row_39 ⟨Nat.le_of_ble_eq_true rfl, Nat.le_of_ble_eq_true rfl⟩ (fun r_46 C_47 H locs hq_48 hP hD hS => ?_)
        obtain ⟨hT, f_49, hq_48⟩ := hq_48
        have hF := fr_tr hF f_49 (by decide) (by decide)
        refine W.widen (k := 0) (n := 0) (Nat.le_refl _) (Nat.le_refl _) ?_
        have t_50 := hT
        rw [hQ]
        exact W.iret (v := r_46) hx hb hr (fun t ht hW => ⟨⟨r_46, C_47, rfl, ⟨hT, hF, ⟨⟨hR.1.fr hF (by decide), (RelS.fr hR.2 f_49 (by decide))⟩, (oh_row2 hq_48 (Or.inr (Or.inr (oh_row64 (k' := 40) rfl u_45))))⟩⟩, ⟨by rw [ht]; exact hP, hD⟩⟩, hS.F ht⟩) hS.2.2 dX7_row_42

set_option maxHeartbeats 4000000 in
set_option maxRecDepth 100000 in
theorem c_X7_set (l : Launch) (D : va_G) (E : Nat → ClassId) (G : Nat → Nat) (sz : Nat) (a : Nat → Nat) (C : Nat → va_E) (n : Nat) (hn : 74 ≤ n) (hT : TyM a E C) (x1 : Int32) (x2 : Int32) (x3 : Int64) (hR : RelM C) : Met l yX7_set (oh_w yX7_set cX7_set 5 (some .int)) ({ frames := 1, cells := 0, slots := 0, locals := 25 }) (oh_Pm D E G [.ref (a 0), .int x1, .int x2, .long x3] (oh_W n a C) sz) (va_Qi (fun r (u : Nat → va_E) => TyM a E u ∧ fr [(8, 9), (16, 24)] [] C u ∧ (RelM u)) (oh_B D (va_A (oh_W n a C) sz) (fun u => oh_W n a u)) (va_A (oh_W n a C) sz)) 0 0 (va_A (oh_W n a C) sz) := by
  refine Met.ofW (cc := cX7_set) (maxL := 5) (ret := (some .int)) (by decide) rfl ?_
  intro p e s m args below meth c s₁ B hml hv
  obtain ⟨rfl, hsz, hP, hK, hD0, hG⟩ := hv
  have hx := B.exec
  have hb := B.bytes
  have hr := B.returns
  have hts := atoms_spec (ws := (oh_w yX7_set cX7_set 5 (some .int))) B.pre
  have htg : ∀ w ∈ oh_t, w.before _ s = true := fun w h => hts w (List.mem_cons_of_mem _ h)
  have hown : s.vm.findClass RX7 = some m.cls := findClass_of_methodNamed B.named
  have hlocks := B.notSynchronized
  have hT0 := hT
  subst hsz
  have hD := hD0.self (sz := s.heap.size)
  generalize hAe : va_A (oh_W n a C) s.heap.size = A at hD hG ⊢
  have hA : ∀ q : Nat, s.heap.size ≤ q → A q := fun q h => by rw [← hAe]; exact Or.inr h
  have hS : va_S A s.heap s.heap [] := va_S.rf
  have hF : fr [(8, 9), (16, 24)] [] C C := fr_rf
  have hl := lv_entry ([.ref (a 0), .int x1, .int x2, .long x3]) (n := 5) (Nat.le_of_ble_eq_true rfl)
  rw [lg_entry_eq]
  generalize (lg_sl ([.ref (a 0), .int x1, .int x2, .long x3]) ++ List.replicate (5 - (lg_sl ([.ref (a 0), .int x1, .int x2, .long x3])).length) Slot.unset).toArray = ls at hl ⊢
  have hl : lv_has ls 5 [(0, .ref (a 0)), (1, .int x1), (2, .int x2), (3, .long x3)] := hl
  refine oh_genQ (fun Q hQ => ?_)
  refine lv_iload_n hx hb dX7_set_0 rfl (lv_at hl 1 rfl) ?_
  refine lv_i2l (v := Int32.toInt64 x1) hx hb dX7_set_1 (by rfl) ?_
  refine lv_lconst (v := 0) hx hb dX7_set_2 (by decide) ?_
  refine lv_ldc2 (v := 7) hx hb hown (htg _ q_1065) dX7_set_3 ?_
  refine tq_S (As := [.long (Int32.toInt64 x1), .long 0, .long 7]) (rest := []) (ws := []) ⟨hx, hb, hml, hown, htg⟩ (c_X7_in l D E G (Int32.toInt64 x1) (0 : Int64) (7 : Int64)) (va_cwS 3 htg (oh_gS q_1066 q_1067 q_73 q_1068) rfl rfl rfl pdX7_in ⟨Nat.le_of_ble_eq_true rfl, Nat.le_of_ble_eq_true rfl⟩) hK va_nil hG hS rfl hl.1 rfl (Nat.le_of_ble_eq_true rfl) dX7_set_6 ⟨Nat.le_of_ble_eq_true rfl, Nat.le_of_ble_eq_true rfl⟩ (fun r_1 hq_2 => ?_)
  refine lv_if_ne (tgt := 19) hx hb dX7_set_9 (by decide) (fun (c_3 : ¬ (r_1 = 0)) => ?_) (fun (c_3 : r_1 = 0) => ?_)
  · have u_4 := hq_2.2.1 c_3
    refine lv_aload_n hx hb dX7_set_19 rfl (lv_at hl 0 rfl) ?_
    refine va_get (D := D) (ci := 7) (v := .ref (a 1)) (C := RX7) (T := TX7) (N := 29) hx hb htg ig_7 hown hK hP 0 (oh_wg (Nat.lt_of_lt_of_le (by decide) hn) (sM_0 hT)) rfl 0 (by decide) (htg _ q_973) (fun _ h9 => h9) rfl dX7_set_20 ?_
    refine lv_iload_n hx hb dX7_set_23 rfl (lv_at hl 1 rfl) ?_
    have n_5 : vp_in x1 8 := (rg_in (rg_il (rgL_i (rg_il (rnL_leu u_4.2 (rnL_lel u_4.1 (rgL_c (v := 0) (lo := 0) (hi := 0) (by decide)) (rgL_i (rg_any _))) (rgL_c (v := 7) (lo := 7) (hi := 7) (by decide)))))) (by decide))
    refine th_iald hx hb hK hP 1 (Nat.lt_of_lt_of_le (by decide) hn) (sM_1 hT) n_5 dX7_set_24 ?_
    refine lv_iconst (v := 2) hx hb dX7_set_25 (by decide) ?_
    refine lv_icmp_ne (tgt := 36) hx hb dX7_set_26 (by decide) (fun (c_6 : ¬ ((ga (C 1) (x1).toNatClampNeg) = 2)) => ?_) (fun (c_6 : (ga (C 1) (x1).toNatClampNeg) = 2) => ?_)
    · refine lv_aload_n hx hb dX7_set_36 rfl (lv_at hl 0 rfl) ?_
      refine va_get (D := D) (ci := 7) (v := .ref (a 1)) (C := RX7) (T := TX7) (N := 29) hx hb htg ig_7 hown hK hP 0 (oh_wg (Nat.lt_of_lt_of_le (by decide) hn) (sM_0 hT)) rfl 0 (by decide) (htg _ q_973) (fun _ h9 => h9) rfl dX7_set_37 ?_
      refine lv_iload_n hx hb dX7_set_40 rfl (lv_at hl 1 rfl) ?_
      have n_7 : vp_in x1 8 := (rg_in (rg_il (rgL_i (rg_il (rnL_leu u_4.2 (rnL_lel u_4.1 (rgL_c (v := 0) (lo := 0) (hi := 0) (by decide)) (rgL_i (rg_any _))) (rgL_c (v := 7) (lo := 7) (hi := 7) (by decide)))))) (by decide))
      refine th_iald hx hb hK hP 1 (Nat.lt_of_lt_of_le (by decide) hn) (sM_1 hT) n_7 dX7_set_41 ?_
      refine lv_if_ne (tgt := 52) hx hb dX7_set_42 (by decide) (fun (c_8 : ¬ ((ga (C 1) (x1).toNatClampNeg) = 0)) => ?_) (fun (c_8 : (ga (C 1) (x1).toNatClampNeg) = 0) => ?_)
      · refine lv_iload_n hx hb dX7_set_52 rfl (lv_at hl 2 rfl) ?_
        refine lv_i2l (v := Int32.toInt64 x2) hx hb dX7_set_53 (by rfl) ?_
        refine lv_lconst (v := 0) hx hb dX7_set_54 (by decide) ?_
        refine lv_aload_n hx hb dX7_set_55 rfl (lv_at hl 0 rfl) ?_
        refine va_get (D := D) (ci := 7) (v := .ref (a 3)) (C := RX7) (T := TX7) (N := 29) hx hb htg ig_7 hown hK hP 0 (oh_wg (Nat.lt_of_lt_of_le (by decide) hn) (sM_0 hT)) rfl 2 (by decide) (htg _ q_975) (fun _ h9 => h9) rfl dX7_set_56 ?_
        refine lv_iload_n hx hb dX7_set_59 rfl (lv_at hl 1 rfl) ?_
        have n_9 : vp_in x1 8 := (rg_in (rg_il (rgL_i (rg_il (rnL_leu u_4.2 (rnL_lel u_4.1 (rgL_c (v := 0) (lo := 0) (hi := 0) (by decide)) (rgL_i (rg_any _))) (rgL_c (v := 7) (lo := 7) (hi := 7) (by decide)))))) (by decide))
        refine th_iald hx hb hK hP 3 (Nat.lt_of_lt_of_le (by decide) hn) (sM_3 hT) n_9 dX7_set_60 ?_
        refine lv_iconst (v := 1) hx hb dX7_set_61 (by decide) ?_
        refine lv_isub hx hb dX7_set_62 ?_
        refine lv_i2l (v := Int32.toInt64 ((ga (C 3) (x1).toNatClampNeg) - 1)) hx hb dX7_set_63 (by rfl) ?_
        refine tq_S (As := [.long (Int32.toInt64 x2), .long 0, .long (Int32.toInt64 ((ga (C 3) (x1).toNatClampNeg) - 1))]) (rest := []) (ws := []) ⟨hx, hb, hml, hown, htg⟩ (c_X7_in l D E G (Int32.toInt64 x2) (0 : Int64) (Int32.toInt64 ((ga (C 3) (x1).toNatClampNeg) - 1))) (va_cwS 3 htg (oh_gS q_1066 q_1067 q_73 q_1068) rfl rfl rfl pdX7_in ⟨Nat.le_of_ble_eq_true rfl, Nat.le_of_ble_eq_true rfl⟩) hK va_nil hG hS rfl hl.1 rfl (Nat.le_of_ble_eq_true rfl) dX7_set_64 ⟨Nat.le_of_ble_eq_true rfl, Nat.le_of_ble_eq_true rfl⟩ (fun r_10 hq_11 => ?_)
        refine lv_if_ne (tgt := 77) hx hb dX7_set_67 (by decide) (fun (c_12 : ¬ (r_10 = 0)) => ?_) (fun (c_12 : r_10 = 0) => ?_)
        · have u_13 := hq_11.2.1 c_12
          refine lv_aload_n hx hb dX7_set_77 rfl (lv_at hl 0 rfl) ?_
          refine va_get (D := D) (ci := 7) (v := .ref (a 4)) (C := RX7) (T := TX7) (N := 29) hx hb htg ig_7 hown hK hP 0 (oh_wg (Nat.lt_of_lt_of_le (by decide) hn) (sM_0 hT)) rfl 3 (by decide) (htg _ q_976) (fun _ h9 => h9) rfl dX7_set_78 ?_
          refine lv_iload_n hx hb dX7_set_81 rfl (lv_at hl 1 rfl) ?_
          have n_14 : vp_in x1 8 := (rg_in (rg_il (rgL_i (rg_il (rnL_leu u_4.2 (rnL_lel u_4.1 (rgL_c (v := 0) (lo := 0) (hi := 0) (by decide)) (rgL_i (rg_any _))) (rgL_c (v := 7) (lo := 7) (hi := 7) (by decide)))))) (by decide))
          have b_15 : (x1).toNatClampNeg < 8 := vp_lt n_14
          refine th_aald hx hb hK hP 4 3 (Nat.lt_of_lt_of_le (by decide) hn) (sM_4 hT) rfl n_14 dX7_set_82 ?_
          refine lv_iload_n hx hb dX7_set_83 rfl (lv_at hl 2 rfl) ?_
          refine lv_aload_n hx hb dX7_set_84 rfl (lv_at hl 0 rfl) ?_
          refine va_get (D := D) (ci := 7) (v := .ref (a 2)) (C := RX7) (T := TX7) (N := 29) hx hb htg ig_7 hown hK hP 0 (oh_wg (Nat.lt_of_lt_of_le (by decide) hn) (sM_0 hT)) rfl 1 (by decide) (htg _ q_974) (fun _ h9 => h9) rfl dX7_set_85 ?_
          refine lv_iload_n hx hb dX7_set_88 rfl (lv_at hl 1 rfl) ?_
          have n_16 : vp_in x1 8 := (rg_in (rg_il (rgL_i (rg_il (rnL_leu u_4.2 (rnL_lel u_4.1 (rgL_c (v := 0) (lo := 0) (hi := 0) (by decide)) (rgL_i (rg_any _))) (rgL_c (v := 7) (lo := 7) (hi := 7) (by decide)))))) (by decide))
          refine th_iald hx hb hK hP 2 (Nat.lt_of_lt_of_le (by decide) hn) (sM_2 hT) n_16 dX7_set_89 ?_
          refine lv_lload_n hx hb dX7_set_90 rfl (lv_at hl 3 rfl) ?_
          refine tq_Sl (As := [.int (ga (C 2) (x1).toNatClampNeg), .long x3]) (rest := [.int x2, .ref (a (16 + (x1).toNatClampNeg))]) (ws := []) ⟨hx, hb, hml, hown, htg⟩ (c_X7_fit l D E G (ga (C 2) (x1).toNatClampNeg) x3) (va_cwS 2 htg (oh_gS q_1079 q_1080 q_73 q_1081) rfl rfl rfl pdX7_fit ⟨Nat.le_of_ble_eq_true rfl, Nat.le_of_ble_eq_true rfl⟩) hK va_nil hG hS rfl hl.1 rfl (Nat.le_of_ble_eq_true rfl) dX7_set_91 ⟨Nat.le_of_ble_eq_true rfl, Nat.le_of_ble_eq_true rfl⟩ (fun r_17 hq_18 => ?_)
          have n_19 : vp_in x2 40 := (rg_in (rg_il (rnL_leu u_13.2 (rgL_i (rg_il (rnL_lel u_13.1 (rgL_c (v := 0) (lo := 0) (hi := 0) (by decide)) (rgL_i (rg_any _))))) (rgL_i (rg_sub (lo := (-1)) (hi := 39) (tA_rdc (lo := 0) (hi := 40) (tM_3 hT0) n_9 (Nat.mod_one _) (by decide)) (rg_c (v := 1) (lo := 1) (hi := 1) (by decide)) (by decide))))) (by decide))
          refine th_last (T := TyM a E) (Rl := fr [(8, 9), (16, 24)] [] C) hx hb hK hP hD hS (16 + (x1).toNatClampNeg) (lt_blk b_15 hn (by decide)) (hT.brows b_15) n_19 (hT.uprows b_15 rfl) (fr_st hF (by omega) (inR_of (p := (16, 24)) (by decide) (by show 16 ≤ _; omega) (by show _ < 24; omega))) dX7_set_94 (fun C_20 H locs e_21 hT hF hP hD hS => ?_)
          have t_22 := hT
          refine lv_iconst (v := 1) hx hb dX7_set_95 (by decide) ?_
          rw [hQ]
          exact W.iret (v := 1) hx hb hr (fun t ht hW => ⟨⟨1, C_20, rfl, ⟨hT, hF, ⟨hR.1.fr hF (by decide), hR.2.fr hF (by decide)⟩⟩, ⟨by rw [ht]; exact hP, hD⟩⟩, hS.F ht⟩) hS.2.2 dX7_set_96
        · have u_23 := hq_11.2.2 c_12
          refine lv_aload_n hx hb dX7_set_70 rfl (lv_at hl 0 rfl) ?_
          refine lv_bipush (v := (-2)) hx hb dX7_set_71 (by decide) ?_
          refine tm_V (As := [.int (-2)]) (rest := []) ⟨hx, hb, hml, hown, htg⟩ (c_X7_refuse l D E G _ a C n hn hT ((-2) : Int32) (rg_w (rg_c (v := (-2)) (lo := (-2)) (hi := (-2)) (by decide)) (by decide))) (cwV 1 htg (oh_gV q_1071 q_1073 q_29 q_73 q_1074) rfl rfl rfl pdVX7_refuse ⟨Nat.le_of_ble_eq_true rfl, Nat.le_of_ble_eq_true rfl⟩) hK hP hD hG hS hA (va_recv hK hP (ci := 7) (q0 := 0) rfl (oh_wg (Nat.lt_of_lt_of_le (by decide) hn) (sM_0 hT))) rfl hl.1 rfl (Nat.le_of_ble_eq_true rfl) dX7_set_73 ⟨Nat.le_of_ble_eq_true rfl, Nat.le_of_ble_eq_true rfl⟩ (fun r_24 C_25 H locs hq_26 hP hD hS => ?_)
          obtain ⟨hT, f_27, hq_26⟩ := hq_26
          have hF := fr_tr hF f_27 (by decide) (by decide)
          refine W.widen (k := 0) (n := 0) (Nat.le_refl _) (Nat.le_refl _) ?_
          have t_28 := hT
          rw [hQ]
          exact W.iret (v := r_24) hx hb hr (fun t ht hW => ⟨⟨r_24, C_25, rfl, ⟨hT, hF, ⟨hR.1.fr hF (by decide), hR.2.fr hF (by decide)⟩⟩, ⟨by rw [ht]; exact hP, hD⟩⟩, hS.F ht⟩) hS.2.2 dX7_set_76
      · refine lv_aload_n hx hb dX7_set_45 rfl (lv_at hl 0 rfl) ?_
        refine lv_bipush (v := (-4)) hx hb dX7_set_46 (by decide) ?_
        refine tm_V (As := [.int (-4)]) (rest := []) ⟨hx, hb, hml, hown, htg⟩ (c_X7_refuse l D E G _ a C n hn hT ((-4) : Int32) (rg_w (rg_c (v := (-4)) (lo := (-4)) (hi := (-4)) (by decide)) (by decide))) (cwV 1 htg (oh_gV q_1071 q_1073 q_29 q_73 q_1074) rfl rfl rfl pdVX7_refuse ⟨Nat.le_of_ble_eq_true rfl, Nat.le_of_ble_eq_true rfl⟩) hK hP hD hG hS hA (va_recv hK hP (ci := 7) (q0 := 0) rfl (oh_wg (Nat.lt_of_lt_of_le (by decide) hn) (sM_0 hT))) rfl hl.1 rfl (Nat.le_of_ble_eq_true rfl) dX7_set_48 ⟨Nat.le_of_ble_eq_true rfl, Nat.le_of_ble_eq_true rfl⟩ (fun r_29 C_30 H locs hq_31 hP hD hS => ?_)
        obtain ⟨hT, f_32, hq_31⟩ := hq_31
        have hF := fr_tr hF f_32 (by decide) (by decide)
        refine W.widen (k := 0) (n := 0) (Nat.le_refl _) (Nat.le_refl _) ?_
        have t_33 := hT
        rw [hQ]
        exact W.iret (v := r_29) hx hb hr (fun t ht hW => ⟨⟨r_29, C_30, rfl, ⟨hT, hF, ⟨hR.1.fr hF (by decide), hR.2.fr hF (by decide)⟩⟩, ⟨by rw [ht]; exact hP, hD⟩⟩, hS.F ht⟩) hS.2.2 dX7_set_51
    · refine lv_aload_n hx hb dX7_set_29 rfl (lv_at hl 0 rfl) ?_
      refine lv_bipush (v := (-3)) hx hb dX7_set_30 (by decide) ?_
      refine tm_V (As := [.int (-3)]) (rest := []) ⟨hx, hb, hml, hown, htg⟩ (c_X7_refuse l D E G _ a C n hn hT ((-3) : Int32) (rg_w (rg_c (v := (-3)) (lo := (-3)) (hi := (-3)) (by decide)) (by decide))) (cwV 1 htg (oh_gV q_1071 q_1073 q_29 q_73 q_1074) rfl rfl rfl pdVX7_refuse ⟨Nat.le_of_ble_eq_true rfl, Nat.le_of_ble_eq_true rfl⟩) hK hP hD hG hS hA (va_recv hK hP (ci := 7) (q0 := 0) rfl (oh_wg (Nat.lt_of_lt_of_le (by decide) hn) (sM_0 hT))) rfl hl.1 rfl (Nat.le_of_ble_eq_true rfl) dX7_set_32 ⟨Nat.le_of_ble_eq_true rfl, Nat.le_of_ble_eq_true rfl⟩ (fun r_34 C_35 H locs hq_36 hP hD hS => ?_)
      obtain ⟨hT, f_37, hq_36⟩ := hq_36
      have hF := fr_tr hF f_37 (by decide) (by decide)
      refine W.widen (k := 0) (n := 0) (Nat.le_refl _) (Nat.le_refl _) ?_
      have t_38 := hT
      rw [hQ]
      exact W.iret (v := r_34) hx hb hr (fun t ht hW => ⟨⟨r_34, C_35, rfl, ⟨hT, hF, ⟨hR.1.fr hF (by decide), hR.2.fr hF (by decide)⟩⟩, ⟨by rw [ht]; exact hP, hD⟩⟩, hS.F ht⟩) hS.2.2 dX7_set_35
  · have u_39 := hq_2.2.2 c_3
    refine lv_aload_n hx hb dX7_set_12 rfl (lv_at hl 0 rfl) ?_
    refine lv_bipush (v := (-2)) hx hb dX7_set_13 (by decide) ?_
    refine tm_V (As := [.int (-2)]) (rest := []) ⟨hx, hb, hml, hown, htg⟩ (c_X7_refuse l D E G _ a C n hn hT ((-2) : Int32) (rg_w (rg_c (v := (-2)) (lo := (-2)) (hi := (-2)) (by decide)) (by decide))) (cwV 1 htg (oh_gV q_1071 q_1073 q_29 q_73 q_1074) rfl rfl rfl pdVX7_refuse ⟨Nat.le_of_ble_eq_true rfl, Nat.le_of_ble_eq_true rfl⟩) hK hP hD hG hS hA (va_recv hK hP (ci := 7) (q0 := 0) rfl (oh_wg (Nat.lt_of_lt_of_le (by decide) hn) (sM_0 hT))) rfl hl.1 rfl (Nat.le_of_ble_eq_true rfl) dX7_set_15 ⟨Nat.le_of_ble_eq_true rfl, Nat.le_of_ble_eq_true rfl⟩ (fun r_40 C_41 H locs hq_42 hP hD hS => ?_)
    obtain ⟨hT, f_43, hq_42⟩ := hq_42
    have hF := fr_tr hF f_43 (by decide) (by decide)
    refine W.widen (k := 0) (n := 0) (Nat.le_refl _) (Nat.le_refl _) ?_
    have t_44 := hT
    rw [hQ]
    exact W.iret (v := r_40) hx hb hr (fun t ht hW => ⟨⟨r_40, C_41, rfl, ⟨hT, hF, ⟨hR.1.fr hF (by decide), hR.2.fr hF (by decide)⟩⟩, ⟨by rw [ht]; exact hP, hD⟩⟩, hS.F ht⟩) hS.2.2 dX7_set_18

theorem oh_cix {i k n sz : Int32} (hi : rg i 0 2147483647) (hk : rg k 0 40) (hn : rg n 0 40) (hs : rg sz 0 40) (c : i ≤ sz - n) (d : k < n) : vp_in (i + k) 40 := by
  have c1 := Int32.le_iff_toInt_le.mp c
  have d1 := Int32.lt_iff_toInt_lt.mp d
  have e : (sz - n).toInt = sz.toInt - n.toInt := by
    rw [Int32.toInt_sub]
    exact oh_bmod (by have := hs.1; have := hn.2; omega) (by have := hs.2; have := hn.1; omega)
  rw [e] at c1
  obtain ⟨i1, i2⟩ := hi
  obtain ⟨k1, k2⟩ := hk
  obtain ⟨s1, s2⟩ := hs
  have e2 : (i + k).toInt = i.toInt + k.toInt := by
    rw [Int32.toInt_add]
    exact oh_bmod (by omega) (by omega)
  exact vp_in_iff.mpr ⟨by rw [e2]; omega, by rw [e2]; omega⟩

set_option maxHeartbeats 4000000 in
set_option maxRecDepth 100000 in
theorem c_X7_copy (l : Launch) (D : va_G) (E : Nat → ClassId) (G : Nat → Nat) (sz : Nat) (a : Nat → Nat) (C : Nat → va_E) (n : Nat) (hn : 74 ≤ n) (hT : TyM a E C) (x1 : Int32) (x2 : Int32) (x3 : Int32) (x4 : Int32) (x5 : Int32) (hR : RelM C) : Met l yX7_copy (oh_w yX7_copy cX7_copy 7 (some .int)) ({ frames := 1, cells := 0, slots := 0, locals := 25 }) (oh_Pm D E G [.ref (a 0), .int x1, .int x2, .int x3, .int x4, .int x5] (oh_W n a C) sz) (va_Qi (fun r (u : Nat → va_E) => TyM a E u ∧ fr [(5, 6), (8, 9), (16, 24)] [] C u ∧ (RelM u)) (oh_B D (va_A (oh_W n a C) sz) (fun u => oh_W n a u)) (va_A (oh_W n a C) sz)) 0 0 (va_A (oh_W n a C) sz) := by
  refine Met.ofW (cc := cX7_copy) (maxL := 7) (ret := (some .int)) (by decide) rfl ?_
  intro p e s m args below meth c s₁ B hml hv
  obtain ⟨rfl, hsz, hP, hK, hD0, hG⟩ := hv
  have hx := B.exec
  have hb := B.bytes
  have hr := B.returns
  have hts := atoms_spec (ws := (oh_w yX7_copy cX7_copy 7 (some .int))) B.pre
  have htg : ∀ w ∈ oh_t, w.before _ s = true := fun w h => hts w (List.mem_cons_of_mem _ h)
  have hown : s.vm.findClass RX7 = some m.cls := findClass_of_methodNamed B.named
  have hlocks := B.notSynchronized
  have hT0 := hT
  subst hsz
  have hD := hD0.self (sz := s.heap.size)
  generalize hAe : va_A (oh_W n a C) s.heap.size = A at hD hG ⊢
  have hA : ∀ q : Nat, s.heap.size ≤ q → A q := fun q h => by rw [← hAe]; exact Or.inr h
  have hS : va_S A s.heap s.heap [] := va_S.rf
  have hF : fr [(5, 6), (8, 9), (16, 24)] [] C C := fr_rf
  have hl := lv_entry ([.ref (a 0), .int x1, .int x2, .int x3, .int x4, .int x5]) (n := 7) (Nat.le_of_ble_eq_true rfl)
  rw [lg_entry_eq]
  generalize (lg_sl ([.ref (a 0), .int x1, .int x2, .int x3, .int x4, .int x5]) ++ List.replicate (7 - (lg_sl ([.ref (a 0), .int x1, .int x2, .int x3, .int x4, .int x5])).length) Slot.unset).toArray = ls at hl ⊢
  have hl : lv_has ls 7 [(0, .ref (a 0)), (1, .int x1), (2, .int x2), (3, .int x3), (4, .int x4), (5, .int x5)] := hl
  refine oh_genQ (fun Q hQ => ?_)
  refine lv_iload_n hx hb dX7_copy_0 rfl (lv_at hl 1 rfl) ?_
  refine lv_i2l (v := Int32.toInt64 x1) hx hb dX7_copy_1 (by rfl) ?_
  refine lv_lconst (v := 0) hx hb dX7_copy_2 (by decide) ?_
  refine lv_ldc2 (v := 7) hx hb hown (htg _ q_1065) dX7_copy_3 ?_
  refine tq_S (As := [.long (Int32.toInt64 x1), .long 0, .long 7]) (rest := []) (ws := []) ⟨hx, hb, hml, hown, htg⟩ (c_X7_in l D E G (Int32.toInt64 x1) (0 : Int64) (7 : Int64)) (va_cwS 3 htg (oh_gS q_1066 q_1067 q_73 q_1068) rfl rfl rfl pdX7_in ⟨Nat.le_of_ble_eq_true rfl, Nat.le_of_ble_eq_true rfl⟩) hK va_nil hG hS rfl hl.1 rfl (Nat.le_of_ble_eq_true rfl) dX7_copy_6 ⟨Nat.le_of_ble_eq_true rfl, Nat.le_of_ble_eq_true rfl⟩ (fun r_1 hq_2 => ?_)
  refine lv_if_eq (tgt := 24) hx hb dX7_copy_9 (by decide) (fun (c_3 : r_1 = 0) => ?_) (fun (c_3 : ¬ (r_1 = 0)) => ?_)
  · have u_4 := hq_2.2.2 c_3
    refine lv_aload_n hx hb dX7_copy_24 rfl (lv_at hl 0 rfl) ?_
    refine lv_bipush (v := (-2)) hx hb dX7_copy_25 (by decide) ?_
    refine tm_V (As := [.int (-2)]) (rest := []) ⟨hx, hb, hml, hown, htg⟩ (c_X7_refuse l D E G _ a C n hn hT ((-2) : Int32) (rg_w (rg_c (v := (-2)) (lo := (-2)) (hi := (-2)) (by decide)) (by decide))) (cwV 1 htg (oh_gV q_1071 q_1073 q_29 q_73 q_1074) rfl rfl rfl pdVX7_refuse ⟨Nat.le_of_ble_eq_true rfl, Nat.le_of_ble_eq_true rfl⟩) hK hP hD hG hS hA (va_recv hK hP (ci := 7) (q0 := 0) rfl (oh_wg (Nat.lt_of_lt_of_le (by decide) hn) (sM_0 hT))) rfl hl.1 rfl (Nat.le_of_ble_eq_true rfl) dX7_copy_27 ⟨Nat.le_of_ble_eq_true rfl, Nat.le_of_ble_eq_true rfl⟩ (fun r_5 C_6 H locs hq_7 hP hD hS => ?_)
    obtain ⟨hT, f_8, hq_7⟩ := hq_7
    have hF := fr_tr hF f_8 (by decide) (by decide)
    refine W.widen (k := 0) (n := 0) (Nat.le_refl _) (Nat.le_refl _) ?_
    have t_9 := hT
    rw [hQ]
    exact W.iret (v := r_5) hx hb hr (fun t ht hW => ⟨⟨r_5, C_6, rfl, ⟨hT, hF, ⟨hR.1.fr hF (by decide), hR.2.fr hF (by decide)⟩⟩, ⟨by rw [ht]; exact hP, hD⟩⟩, hS.F ht⟩) hS.2.2 dX7_copy_30
  · have u_10 := hq_2.2.1 c_3
    refine lv_iload_n hx hb dX7_copy_12 rfl (lv_at hl 2 rfl) ?_
    refine lv_i2l (v := Int32.toInt64 x2) hx hb dX7_copy_13 (by rfl) ?_
    refine lv_lconst (v := 0) hx hb dX7_copy_14 (by decide) ?_
    refine lv_ldc2 (v := 7) hx hb hown (htg _ q_1065) dX7_copy_15 ?_
    refine tq_S (As := [.long (Int32.toInt64 x2), .long 0, .long 7]) (rest := []) (ws := []) ⟨hx, hb, hml, hown, htg⟩ (c_X7_in l D E G (Int32.toInt64 x2) (0 : Int64) (7 : Int64)) (va_cwS 3 htg (oh_gS q_1066 q_1067 q_73 q_1068) rfl rfl rfl pdX7_in ⟨Nat.le_of_ble_eq_true rfl, Nat.le_of_ble_eq_true rfl⟩) hK va_nil hG hS rfl hl.1 rfl (Nat.le_of_ble_eq_true rfl) dX7_copy_18 ⟨Nat.le_of_ble_eq_true rfl, Nat.le_of_ble_eq_true rfl⟩ (fun r_11 hq_12 => ?_)
    refine lv_if_ne (tgt := 31) hx hb dX7_copy_21 (by decide) (fun (c_13 : ¬ (r_11 = 0)) => ?_) (fun (c_13 : r_11 = 0) => ?_)
    · have u_14 := hq_12.2.1 c_13
      refine lv_aload_n hx hb dX7_copy_31 rfl (lv_at hl 0 rfl) ?_
      refine va_get (D := D) (ci := 7) (v := .ref (a 1)) (C := RX7) (T := TX7) (N := 29) hx hb htg ig_7 hown hK hP 0 (oh_wg (Nat.lt_of_lt_of_le (by decide) hn) (sM_0 hT)) rfl 0 (by decide) (htg _ q_973) (fun _ h9 => h9) rfl dX7_copy_32 ?_
      refine lv_iload_n hx hb dX7_copy_35 rfl (lv_at hl 1 rfl) ?_
      have n_15 : vp_in x1 8 := (rg_in (rg_il (rgL_i (rg_il (rnL_leu u_10.2 (rnL_lel u_10.1 (rgL_c (v := 0) (lo := 0) (hi := 0) (by decide)) (rgL_i (rg_any _))) (rgL_c (v := 7) (lo := 7) (hi := 7) (by decide)))))) (by decide))
      refine th_iald hx hb hK hP 1 (Nat.lt_of_lt_of_le (by decide) hn) (sM_1 hT) n_15 dX7_copy_36 ?_
      refine lv_iconst (v := 2) hx hb dX7_copy_37 (by decide) ?_
      refine lv_icmp_eq (tgt := 86) hx hb dX7_copy_38 (by decide) (fun (c_16 : (ga (C 1) (x1).toNatClampNeg) = 2) => ?_) (fun (c_16 : ¬ ((ga (C 1) (x1).toNatClampNeg) = 2)) => ?_)
      · refine lv_aload_n hx hb dX7_copy_86 rfl (lv_at hl 0 rfl) ?_
        refine lv_bipush (v := (-3)) hx hb dX7_copy_87 (by decide) ?_
        refine tm_V (As := [.int (-3)]) (rest := []) ⟨hx, hb, hml, hown, htg⟩ (c_X7_refuse l D E G _ a C n hn hT ((-3) : Int32) (rg_w (rg_c (v := (-3)) (lo := (-3)) (hi := (-3)) (by decide)) (by decide))) (cwV 1 htg (oh_gV q_1071 q_1073 q_29 q_73 q_1074) rfl rfl rfl pdVX7_refuse ⟨Nat.le_of_ble_eq_true rfl, Nat.le_of_ble_eq_true rfl⟩) hK hP hD hG hS hA (va_recv hK hP (ci := 7) (q0 := 0) rfl (oh_wg (Nat.lt_of_lt_of_le (by decide) hn) (sM_0 hT))) rfl hl.1 rfl (Nat.le_of_ble_eq_true rfl) dX7_copy_89 ⟨Nat.le_of_ble_eq_true rfl, Nat.le_of_ble_eq_true rfl⟩ (fun r_17 C_18 H locs hq_19 hP hD hS => ?_)
        obtain ⟨hT, f_20, hq_19⟩ := hq_19
        have hF := fr_tr hF f_20 (by decide) (by decide)
        refine W.widen (k := 0) (n := 0) (Nat.le_refl _) (Nat.le_refl _) ?_
        have t_21 := hT
        rw [hQ]
        exact W.iret (v := r_17) hx hb hr (fun t ht hW => ⟨⟨r_17, C_18, rfl, ⟨hT, hF, ⟨hR.1.fr hF (by decide), hR.2.fr hF (by decide)⟩⟩, ⟨by rw [ht]; exact hP, hD⟩⟩, hS.F ht⟩) hS.2.2 dX7_copy_92
      · refine lv_aload_n hx hb dX7_copy_41 rfl (lv_at hl 0 rfl) ?_
        refine va_get (D := D) (ci := 7) (v := .ref (a 1)) (C := RX7) (T := TX7) (N := 29) hx hb htg ig_7 hown hK hP 0 (oh_wg (Nat.lt_of_lt_of_le (by decide) hn) (sM_0 hT)) rfl 0 (by decide) (htg _ q_973) (fun _ h9 => h9) rfl dX7_copy_42 ?_
        refine lv_iload_n hx hb dX7_copy_45 rfl (lv_at hl 2 rfl) ?_
        have n_22 : vp_in x2 8 := (rg_in (rg_il (rgL_i (rg_il (rnL_leu u_14.2 (rnL_lel u_14.1 (rgL_c (v := 0) (lo := 0) (hi := 0) (by decide)) (rgL_i (rg_any _))) (rgL_c (v := 7) (lo := 7) (hi := 7) (by decide)))))) (by decide))
        refine th_iald hx hb hK hP 1 (Nat.lt_of_lt_of_le (by decide) hn) (sM_1 hT) n_22 dX7_copy_46 ?_
        refine lv_iconst (v := 2) hx hb dX7_copy_47 (by decide) ?_
        refine lv_icmp_eq (tgt := 86) hx hb dX7_copy_48 (by decide) (fun (c_23 : (ga (C 1) (x2).toNatClampNeg) = 2) => ?_) (fun (c_23 : ¬ ((ga (C 1) (x2).toNatClampNeg) = 2)) => ?_)
        · refine lv_aload_n hx hb dX7_copy_86 rfl (lv_at hl 0 rfl) ?_
          refine lv_bipush (v := (-3)) hx hb dX7_copy_87 (by decide) ?_
          refine tm_V (As := [.int (-3)]) (rest := []) ⟨hx, hb, hml, hown, htg⟩ (c_X7_refuse l D E G _ a C n hn hT ((-3) : Int32) (rg_w (rg_c (v := (-3)) (lo := (-3)) (hi := (-3)) (by decide)) (by decide))) (cwV 1 htg (oh_gV q_1071 q_1073 q_29 q_73 q_1074) rfl rfl rfl pdVX7_refuse ⟨Nat.le_of_ble_eq_true rfl, Nat.le_of_ble_eq_true rfl⟩) hK hP hD hG hS hA (va_recv hK hP (ci := 7) (q0 := 0) rfl (oh_wg (Nat.lt_of_lt_of_le (by decide) hn) (sM_0 hT))) rfl hl.1 rfl (Nat.le_of_ble_eq_true rfl) dX7_copy_89 ⟨Nat.le_of_ble_eq_true rfl, Nat.le_of_ble_eq_true rfl⟩ (fun r_24 C_25 H locs hq_26 hP hD hS => ?_)
          obtain ⟨hT, f_27, hq_26⟩ := hq_26
          have hF := fr_tr hF f_27 (by decide) (by decide)
          refine W.widen (k := 0) (n := 0) (Nat.le_refl _) (Nat.le_refl _) ?_
          have t_28 := hT
          rw [hQ]
          exact W.iret (v := r_24) hx hb hr (fun t ht hW => ⟨⟨r_24, C_25, rfl, ⟨hT, hF, ⟨hR.1.fr hF (by decide), hR.2.fr hF (by decide)⟩⟩, ⟨by rw [ht]; exact hP, hD⟩⟩, hS.F ht⟩) hS.2.2 dX7_copy_92
        · refine lv_aload_n hx hb dX7_copy_51 rfl (lv_at hl 0 rfl) ?_
          refine va_get (D := D) (ci := 7) (v := .ref (a 1)) (C := RX7) (T := TX7) (N := 29) hx hb htg ig_7 hown hK hP 0 (oh_wg (Nat.lt_of_lt_of_le (by decide) hn) (sM_0 hT)) rfl 0 (by decide) (htg _ q_973) (fun _ h9 => h9) rfl dX7_copy_52 ?_
          refine lv_iload_n hx hb dX7_copy_55 rfl (lv_at hl 1 rfl) ?_
          have n_29 : vp_in x1 8 := (rg_in (rg_il (rgL_i (rg_il (rnL_leu u_10.2 (rnL_lel u_10.1 (rgL_c (v := 0) (lo := 0) (hi := 0) (by decide)) (rgL_i (rg_any _))) (rgL_c (v := 7) (lo := 7) (hi := 7) (by decide)))))) (by decide))
          refine th_iald hx hb hK hP 1 (Nat.lt_of_lt_of_le (by decide) hn) (sM_1 hT) n_29 dX7_copy_56 ?_
          refine lv_iconst (v := 1) hx hb dX7_copy_57 (by decide) ?_
          refine lv_icmp_ne (tgt := 93) hx hb dX7_copy_58 (by decide) (fun (c_30 : ¬ ((ga (C 1) (x1).toNatClampNeg) = 1)) => ?_) (fun (c_30 : (ga (C 1) (x1).toNatClampNeg) = 1) => ?_)
          · refine lv_aload_n hx hb dX7_copy_93 rfl (lv_at hl 0 rfl) ?_
            refine va_get (D := D) (ci := 7) (v := .ref (a 1)) (C := RX7) (T := TX7) (N := 29) hx hb htg ig_7 hown hK hP 0 (oh_wg (Nat.lt_of_lt_of_le (by decide) hn) (sM_0 hT)) rfl 0 (by decide) (htg _ q_973) (fun _ h9 => h9) rfl dX7_copy_94 ?_
            refine lv_iload_n hx hb dX7_copy_97 rfl (lv_at hl 1 rfl) ?_
            have n_31 : vp_in x1 8 := (rg_in (rg_il (rgL_i (rg_il (rnL_leu u_10.2 (rnL_lel u_10.1 (rgL_c (v := 0) (lo := 0) (hi := 0) (by decide)) (rgL_i (rg_any _))) (rgL_c (v := 7) (lo := 7) (hi := 7) (by decide)))))) (by decide))
            refine th_iald hx hb hK hP 1 (Nat.lt_of_lt_of_le (by decide) hn) (sM_1 hT) n_31 dX7_copy_98 ?_
            refine lv_if_eq (tgt := 111) hx hb dX7_copy_99 (by decide) (fun (c_32 : (ga (C 1) (x1).toNatClampNeg) = 0) => ?_) (fun (c_32 : ¬ ((ga (C 1) (x1).toNatClampNeg) = 0)) => ?_)
            · refine lv_aload_n hx hb dX7_copy_111 rfl (lv_at hl 0 rfl) ?_
              refine lv_bipush (v := (-4)) hx hb dX7_copy_112 (by decide) ?_
              refine tm_V (As := [.int (-4)]) (rest := []) ⟨hx, hb, hml, hown, htg⟩ (c_X7_refuse l D E G _ a C n hn hT ((-4) : Int32) (rg_w (rg_c (v := (-4)) (lo := (-4)) (hi := (-4)) (by decide)) (by decide))) (cwV 1 htg (oh_gV q_1071 q_1073 q_29 q_73 q_1074) rfl rfl rfl pdVX7_refuse ⟨Nat.le_of_ble_eq_true rfl, Nat.le_of_ble_eq_true rfl⟩) hK hP hD hG hS hA (va_recv hK hP (ci := 7) (q0 := 0) rfl (oh_wg (Nat.lt_of_lt_of_le (by decide) hn) (sM_0 hT))) rfl hl.1 rfl (Nat.le_of_ble_eq_true rfl) dX7_copy_114 ⟨Nat.le_of_ble_eq_true rfl, Nat.le_of_ble_eq_true rfl⟩ (fun r_33 C_34 H locs hq_35 hP hD hS => ?_)
              obtain ⟨hT, f_36, hq_35⟩ := hq_35
              have hF := fr_tr hF f_36 (by decide) (by decide)
              refine W.widen (k := 0) (n := 0) (Nat.le_refl _) (Nat.le_refl _) ?_
              have t_37 := hT
              rw [hQ]
              exact W.iret (v := r_33) hx hb hr (fun t ht hW => ⟨⟨r_33, C_34, rfl, ⟨hT, hF, ⟨hR.1.fr hF (by decide), hR.2.fr hF (by decide)⟩⟩, ⟨by rw [ht]; exact hP, hD⟩⟩, hS.F ht⟩) hS.2.2 dX7_copy_117
            · exact (rg_no (rn_nel (l' := 2) c_30 (rn_nel (l' := 1) c_32 (rn_neu (u' := (-1)) c_32 (rn_neu (u' := 0) c_30 (rn_neu (u' := 1) c_16 (tA_rdc (lo := 0) (hi := 2) (tM_1 hT0) n_31 (Nat.mod_one _) (by decide)) (rg_c (v := 2) (lo := 2) (hi := 2) (by decide)) (by decide)) (rg_c (v := 1) (lo := 1) (hi := 1) (by decide)) (by decide)) (rg_c (v := 0) (lo := 0) (hi := 0) (by decide)) (by decide)) (rg_c (v := 0) (lo := 0) (hi := 0) (by decide)) (by decide)) (rg_c (v := 1) (lo := 1) (hi := 1) (by decide)) (by decide)) (by decide)).elim
          · refine lv_aload_n hx hb dX7_copy_61 rfl (lv_at hl 0 rfl) ?_
            refine va_get (D := D) (ci := 7) (v := .ref (a 1)) (C := RX7) (T := TX7) (N := 29) hx hb htg ig_7 hown hK hP 0 (oh_wg (Nat.lt_of_lt_of_le (by decide) hn) (sM_0 hT)) rfl 0 (by decide) (htg _ q_973) (fun _ h9 => h9) rfl dX7_copy_62 ?_
            refine lv_iload_n hx hb dX7_copy_65 rfl (lv_at hl 2 rfl) ?_
            have n_38 : vp_in x2 8 := (rg_in (rg_il (rgL_i (rg_il (rnL_leu u_14.2 (rnL_lel u_14.1 (rgL_c (v := 0) (lo := 0) (hi := 0) (by decide)) (rgL_i (rg_any _))) (rgL_c (v := 7) (lo := 7) (hi := 7) (by decide)))))) (by decide))
            refine th_iald hx hb hK hP 1 (Nat.lt_of_lt_of_le (by decide) hn) (sM_1 hT) n_38 dX7_copy_66 ?_
            refine lv_iconst (v := 1) hx hb dX7_copy_67 (by decide) ?_
            refine lv_icmp_ne (tgt := 93) hx hb dX7_copy_68 (by decide) (fun (c_39 : ¬ ((ga (C 1) (x2).toNatClampNeg) = 1)) => ?_) (fun (c_39 : (ga (C 1) (x2).toNatClampNeg) = 1) => ?_)
            · refine lv_aload_n hx hb dX7_copy_93 rfl (lv_at hl 0 rfl) ?_
              refine va_get (D := D) (ci := 7) (v := .ref (a 1)) (C := RX7) (T := TX7) (N := 29) hx hb htg ig_7 hown hK hP 0 (oh_wg (Nat.lt_of_lt_of_le (by decide) hn) (sM_0 hT)) rfl 0 (by decide) (htg _ q_973) (fun _ h9 => h9) rfl dX7_copy_94 ?_
              refine lv_iload_n hx hb dX7_copy_97 rfl (lv_at hl 1 rfl) ?_
              have n_40 : vp_in x1 8 := (rg_in (rg_il (rgL_i (rg_il (rnL_leu u_10.2 (rnL_lel u_10.1 (rgL_c (v := 0) (lo := 0) (hi := 0) (by decide)) (rgL_i (rg_any _))) (rgL_c (v := 7) (lo := 7) (hi := 7) (by decide)))))) (by decide))
              refine th_iald hx hb hK hP 1 (Nat.lt_of_lt_of_le (by decide) hn) (sM_1 hT) n_40 dX7_copy_98 ?_
              refine lv_if_eq (tgt := 111) hx hb dX7_copy_99 (by decide) (fun (c_41 : (ga (C 1) (x1).toNatClampNeg) = 0) => ?_) (fun (c_41 : ¬ ((ga (C 1) (x1).toNatClampNeg) = 0)) => ?_)
              · refine lv_aload_n hx hb dX7_copy_111 rfl (lv_at hl 0 rfl) ?_
                refine lv_bipush (v := (-4)) hx hb dX7_copy_112 (by decide) ?_
                refine tm_V (As := [.int (-4)]) (rest := []) ⟨hx, hb, hml, hown, htg⟩ (c_X7_refuse l D E G _ a C n hn hT ((-4) : Int32) (rg_w (rg_c (v := (-4)) (lo := (-4)) (hi := (-4)) (by decide)) (by decide))) (cwV 1 htg (oh_gV q_1071 q_1073 q_29 q_73 q_1074) rfl rfl rfl pdVX7_refuse ⟨Nat.le_of_ble_eq_true rfl, Nat.le_of_ble_eq_true rfl⟩) hK hP hD hG hS hA (va_recv hK hP (ci := 7) (q0 := 0) rfl (oh_wg (Nat.lt_of_lt_of_le (by decide) hn) (sM_0 hT))) rfl hl.1 rfl (Nat.le_of_ble_eq_true rfl) dX7_copy_114 ⟨Nat.le_of_ble_eq_true rfl, Nat.le_of_ble_eq_true rfl⟩ (fun r_42 C_43 H locs hq_44 hP hD hS => ?_)
                obtain ⟨hT, f_45, hq_44⟩ := hq_44
                have hF := fr_tr hF f_45 (by decide) (by decide)
                refine W.widen (k := 0) (n := 0) (Nat.le_refl _) (Nat.le_refl _) ?_
                have t_46 := hT
                rw [hQ]
                exact W.iret (v := r_42) hx hb hr (fun t ht hW => ⟨⟨r_42, C_43, rfl, ⟨hT, hF, ⟨hR.1.fr hF (by decide), hR.2.fr hF (by decide)⟩⟩, ⟨by rw [ht]; exact hP, hD⟩⟩, hS.F ht⟩) hS.2.2 dX7_copy_117
              · refine lv_aload_n hx hb dX7_copy_102 rfl (lv_at hl 0 rfl) ?_
                refine va_get (D := D) (ci := 7) (v := .ref (a 1)) (C := RX7) (T := TX7) (N := 29) hx hb htg ig_7 hown hK hP 0 (oh_wg (Nat.lt_of_lt_of_le (by decide) hn) (sM_0 hT)) rfl 0 (by decide) (htg _ q_973) (fun _ h9 => h9) rfl dX7_copy_103 ?_
                refine lv_iload_n hx hb dX7_copy_106 rfl (lv_at hl 2 rfl) ?_
                have n_47 : vp_in x2 8 := (rg_in (rg_il (rgL_i (rg_il (rnL_leu u_14.2 (rnL_lel u_14.1 (rgL_c (v := 0) (lo := 0) (hi := 0) (by decide)) (rgL_i (rg_any _))) (rgL_c (v := 7) (lo := 7) (hi := 7) (by decide)))))) (by decide))
                refine th_iald hx hb hK hP 1 (Nat.lt_of_lt_of_le (by decide) hn) (sM_1 hT) n_47 dX7_copy_107 ?_
                refine lv_if_ne (tgt := 118) hx hb dX7_copy_108 (by decide) (fun (c_48 : ¬ ((ga (C 1) (x2).toNatClampNeg) = 0)) => ?_) (fun (c_48 : (ga (C 1) (x2).toNatClampNeg) = 0) => ?_)
                · exact (rg_no (rn_nel (l' := 2) c_39 (rn_nel (l' := 1) c_48 (rn_neu (u' := (-1)) c_48 (rn_neu (u' := 0) c_39 (rn_neu (u' := 1) c_23 (tA_rdc (lo := 0) (hi := 2) (tM_1 hT0) n_47 (Nat.mod_one _) (by decide)) (rg_c (v := 2) (lo := 2) (hi := 2) (by decide)) (by decide)) (rg_c (v := 1) (lo := 1) (hi := 1) (by decide)) (by decide)) (rg_c (v := 0) (lo := 0) (hi := 0) (by decide)) (by decide)) (rg_c (v := 0) (lo := 0) (hi := 0) (by decide)) (by decide)) (rg_c (v := 1) (lo := 1) (hi := 1) (by decide)) (by decide)) (by decide)).elim
                · refine lv_aload_n hx hb dX7_copy_111 rfl (lv_at hl 0 rfl) ?_
                  refine lv_bipush (v := (-4)) hx hb dX7_copy_112 (by decide) ?_
                  refine tm_V (As := [.int (-4)]) (rest := []) ⟨hx, hb, hml, hown, htg⟩ (c_X7_refuse l D E G _ a C n hn hT ((-4) : Int32) (rg_w (rg_c (v := (-4)) (lo := (-4)) (hi := (-4)) (by decide)) (by decide))) (cwV 1 htg (oh_gV q_1071 q_1073 q_29 q_73 q_1074) rfl rfl rfl pdVX7_refuse ⟨Nat.le_of_ble_eq_true rfl, Nat.le_of_ble_eq_true rfl⟩) hK hP hD hG hS hA (va_recv hK hP (ci := 7) (q0 := 0) rfl (oh_wg (Nat.lt_of_lt_of_le (by decide) hn) (sM_0 hT))) rfl hl.1 rfl (Nat.le_of_ble_eq_true rfl) dX7_copy_114 ⟨Nat.le_of_ble_eq_true rfl, Nat.le_of_ble_eq_true rfl⟩ (fun r_49 C_50 H locs hq_51 hP hD hS => ?_)
                  obtain ⟨hT, f_52, hq_51⟩ := hq_51
                  have hF := fr_tr hF f_52 (by decide) (by decide)
                  refine W.widen (k := 0) (n := 0) (Nat.le_refl _) (Nat.le_refl _) ?_
                  have t_53 := hT
                  rw [hQ]
                  exact W.iret (v := r_49) hx hb hr (fun t ht hW => ⟨⟨r_49, C_50, rfl, ⟨hT, hF, ⟨hR.1.fr hF (by decide), hR.2.fr hF (by decide)⟩⟩, ⟨by rw [ht]; exact hP, hD⟩⟩, hS.F ht⟩) hS.2.2 dX7_copy_117
            · refine lv_aload_n hx hb dX7_copy_71 rfl (lv_at hl 0 rfl) ?_
              refine va_get (D := D) (ci := 7) (v := .ref (a 2)) (C := RX7) (T := TX7) (N := 29) hx hb htg ig_7 hown hK hP 0 (oh_wg (Nat.lt_of_lt_of_le (by decide) hn) (sM_0 hT)) rfl 1 (by decide) (htg _ q_974) (fun _ h9 => h9) rfl dX7_copy_72 ?_
              refine lv_iload_n hx hb dX7_copy_75 rfl (lv_at hl 1 rfl) ?_
              have n_54 : vp_in x1 8 := (rg_in (rg_il (rgL_i (rg_il (rnL_leu u_10.2 (rnL_lel u_10.1 (rgL_c (v := 0) (lo := 0) (hi := 0) (by decide)) (rgL_i (rg_any _))) (rgL_c (v := 7) (lo := 7) (hi := 7) (by decide)))))) (by decide))
              refine th_iald hx hb hK hP 2 (Nat.lt_of_lt_of_le (by decide) hn) (sM_2 hT) n_54 dX7_copy_76 ?_
              refine lv_aload_n hx hb dX7_copy_77 rfl (lv_at hl 0 rfl) ?_
              refine va_get (D := D) (ci := 7) (v := .ref (a 2)) (C := RX7) (T := TX7) (N := 29) hx hb htg ig_7 hown hK hP 0 (oh_wg (Nat.lt_of_lt_of_le (by decide) hn) (sM_0 hT)) rfl 1 (by decide) (htg _ q_974) (fun _ h9 => h9) rfl dX7_copy_78 ?_
              refine lv_iload_n hx hb dX7_copy_81 rfl (lv_at hl 2 rfl) ?_
              have n_55 : vp_in x2 8 := (rg_in (rg_il (rgL_i (rg_il (rnL_leu u_14.2 (rnL_lel u_14.1 (rgL_c (v := 0) (lo := 0) (hi := 0) (by decide)) (rgL_i (rg_any _))) (rgL_c (v := 7) (lo := 7) (hi := 7) (by decide)))))) (by decide))
              refine th_iald hx hb hK hP 2 (Nat.lt_of_lt_of_le (by decide) hn) (sM_2 hT) n_55 dX7_copy_82 ?_
              refine lv_icmp_eq (tgt := 93) hx hb dX7_copy_83 (by decide) (fun (c_56 : (ga (C 2) (x1).toNatClampNeg) = (ga (C 2) (x2).toNatClampNeg)) => ?_) (fun (c_56 : ¬ ((ga (C 2) (x1).toNatClampNeg) = (ga (C 2) (x2).toNatClampNeg))) => ?_)
              · refine lv_aload_n hx hb dX7_copy_93 rfl (lv_at hl 0 rfl) ?_
                refine va_get (D := D) (ci := 7) (v := .ref (a 1)) (C := RX7) (T := TX7) (N := 29) hx hb htg ig_7 hown hK hP 0 (oh_wg (Nat.lt_of_lt_of_le (by decide) hn) (sM_0 hT)) rfl 0 (by decide) (htg _ q_973) (fun _ h9 => h9) rfl dX7_copy_94 ?_
                refine lv_iload_n hx hb dX7_copy_97 rfl (lv_at hl 1 rfl) ?_
                have n_57 : vp_in x1 8 := (rg_in (rg_il (rgL_i (rg_il (rnL_leu u_10.2 (rnL_lel u_10.1 (rgL_c (v := 0) (lo := 0) (hi := 0) (by decide)) (rgL_i (rg_any _))) (rgL_c (v := 7) (lo := 7) (hi := 7) (by decide)))))) (by decide))
                refine th_iald hx hb hK hP 1 (Nat.lt_of_lt_of_le (by decide) hn) (sM_1 hT) n_57 dX7_copy_98 ?_
                refine lv_if_eq (tgt := 111) hx hb dX7_copy_99 (by decide) (fun (c_58 : (ga (C 1) (x1).toNatClampNeg) = 0) => ?_) (fun (c_58 : ¬ ((ga (C 1) (x1).toNatClampNeg) = 0)) => ?_)
                · refine lv_aload_n hx hb dX7_copy_111 rfl (lv_at hl 0 rfl) ?_
                  refine lv_bipush (v := (-4)) hx hb dX7_copy_112 (by decide) ?_
                  refine tm_V (As := [.int (-4)]) (rest := []) ⟨hx, hb, hml, hown, htg⟩ (c_X7_refuse l D E G _ a C n hn hT ((-4) : Int32) (rg_w (rg_c (v := (-4)) (lo := (-4)) (hi := (-4)) (by decide)) (by decide))) (cwV 1 htg (oh_gV q_1071 q_1073 q_29 q_73 q_1074) rfl rfl rfl pdVX7_refuse ⟨Nat.le_of_ble_eq_true rfl, Nat.le_of_ble_eq_true rfl⟩) hK hP hD hG hS hA (va_recv hK hP (ci := 7) (q0 := 0) rfl (oh_wg (Nat.lt_of_lt_of_le (by decide) hn) (sM_0 hT))) rfl hl.1 rfl (Nat.le_of_ble_eq_true rfl) dX7_copy_114 ⟨Nat.le_of_ble_eq_true rfl, Nat.le_of_ble_eq_true rfl⟩ (fun r_59 C_60 H locs hq_61 hP hD hS => ?_)
                  obtain ⟨hT, f_62, hq_61⟩ := hq_61
                  have hF := fr_tr hF f_62 (by decide) (by decide)
                  refine W.widen (k := 0) (n := 0) (Nat.le_refl _) (Nat.le_refl _) ?_
                  have t_63 := hT
                  rw [hQ]
                  exact W.iret (v := r_59) hx hb hr (fun t ht hW => ⟨⟨r_59, C_60, rfl, ⟨hT, hF, ⟨hR.1.fr hF (by decide), hR.2.fr hF (by decide)⟩⟩, ⟨by rw [ht]; exact hP, hD⟩⟩, hS.F ht⟩) hS.2.2 dX7_copy_117
                · refine lv_aload_n hx hb dX7_copy_102 rfl (lv_at hl 0 rfl) ?_
                  refine va_get (D := D) (ci := 7) (v := .ref (a 1)) (C := RX7) (T := TX7) (N := 29) hx hb htg ig_7 hown hK hP 0 (oh_wg (Nat.lt_of_lt_of_le (by decide) hn) (sM_0 hT)) rfl 0 (by decide) (htg _ q_973) (fun _ h9 => h9) rfl dX7_copy_103 ?_
                  refine lv_iload_n hx hb dX7_copy_106 rfl (lv_at hl 2 rfl) ?_
                  have n_64 : vp_in x2 8 := (rg_in (rg_il (rgL_i (rg_il (rnL_leu u_14.2 (rnL_lel u_14.1 (rgL_c (v := 0) (lo := 0) (hi := 0) (by decide)) (rgL_i (rg_any _))) (rgL_c (v := 7) (lo := 7) (hi := 7) (by decide)))))) (by decide))
                  refine th_iald hx hb hK hP 1 (Nat.lt_of_lt_of_le (by decide) hn) (sM_1 hT) n_64 dX7_copy_107 ?_
                  refine lv_if_ne (tgt := 118) hx hb dX7_copy_108 (by decide) (fun (c_65 : ¬ ((ga (C 1) (x2).toNatClampNeg) = 0)) => ?_) (fun (c_65 : (ga (C 1) (x2).toNatClampNeg) = 0) => ?_)
                  · refine lv_iload hx hb dX7_copy_118 (lv_at hl 5 rfl) ?_
                    refine lv_if_lt (tgt := 181) hx hb dX7_copy_120 (by decide) (fun (c_66 : x5 < 0) => ?_) (fun (c_66 : ¬ (x5 < 0)) => ?_)
                    · refine lv_aload_n hx hb dX7_copy_181 rfl (lv_at hl 0 rfl) ?_
                      refine lv_bipush (v := (-2)) hx hb dX7_copy_182 (by decide) ?_
                      refine tm_V (As := [.int (-2)]) (rest := []) ⟨hx, hb, hml, hown, htg⟩ (c_X7_refuse l D E G _ a C n hn hT ((-2) : Int32) (rg_w (rg_c (v := (-2)) (lo := (-2)) (hi := (-2)) (by decide)) (by decide))) (cwV 1 htg (oh_gV q_1071 q_1073 q_29 q_73 q_1074) rfl rfl rfl pdVX7_refuse ⟨Nat.le_of_ble_eq_true rfl, Nat.le_of_ble_eq_true rfl⟩) hK hP hD hG hS hA (va_recv hK hP (ci := 7) (q0 := 0) rfl (oh_wg (Nat.lt_of_lt_of_le (by decide) hn) (sM_0 hT))) rfl hl.1 rfl (Nat.le_of_ble_eq_true rfl) dX7_copy_184 ⟨Nat.le_of_ble_eq_true rfl, Nat.le_of_ble_eq_true rfl⟩ (fun r_67 C_68 H locs hq_69 hP hD hS => ?_)
                      obtain ⟨hT, f_70, hq_69⟩ := hq_69
                      have hF := fr_tr hF f_70 (by decide) (by decide)
                      refine W.widen (k := 0) (n := 0) (Nat.le_refl _) (Nat.le_refl _) ?_
                      have t_71 := hT
                      rw [hQ]
                      exact W.iret (v := r_67) hx hb hr (fun t ht hW => ⟨⟨r_67, C_68, rfl, ⟨hT, hF, ⟨hR.1.fr hF (by decide), hR.2.fr hF (by decide)⟩⟩, ⟨by rw [ht]; exact hP, hD⟩⟩, hS.F ht⟩) hS.2.2 dX7_copy_187
                    · refine lv_iload_n hx hb dX7_copy_123 rfl (lv_at hl 3 rfl) ?_
                      refine lv_if_lt (tgt := 181) hx hb dX7_copy_124 (by decide) (fun (c_72 : x3 < 0) => ?_) (fun (c_72 : ¬ (x3 < 0)) => ?_)
                      · refine lv_aload_n hx hb dX7_copy_181 rfl (lv_at hl 0 rfl) ?_
                        refine lv_bipush (v := (-2)) hx hb dX7_copy_182 (by decide) ?_
                        refine tm_V (As := [.int (-2)]) (rest := []) ⟨hx, hb, hml, hown, htg⟩ (c_X7_refuse l D E G _ a C n hn hT ((-2) : Int32) (rg_w (rg_c (v := (-2)) (lo := (-2)) (hi := (-2)) (by decide)) (by decide))) (cwV 1 htg (oh_gV q_1071 q_1073 q_29 q_73 q_1074) rfl rfl rfl pdVX7_refuse ⟨Nat.le_of_ble_eq_true rfl, Nat.le_of_ble_eq_true rfl⟩) hK hP hD hG hS hA (va_recv hK hP (ci := 7) (q0 := 0) rfl (oh_wg (Nat.lt_of_lt_of_le (by decide) hn) (sM_0 hT))) rfl hl.1 rfl (Nat.le_of_ble_eq_true rfl) dX7_copy_184 ⟨Nat.le_of_ble_eq_true rfl, Nat.le_of_ble_eq_true rfl⟩ (fun r_73 C_74 H locs hq_75 hP hD hS => ?_)
                        obtain ⟨hT, f_76, hq_75⟩ := hq_75
                        have hF := fr_tr hF f_76 (by decide) (by decide)
                        refine W.widen (k := 0) (n := 0) (Nat.le_refl _) (Nat.le_refl _) ?_
                        have t_77 := hT
                        rw [hQ]
                        exact W.iret (v := r_73) hx hb hr (fun t ht hW => ⟨⟨r_73, C_74, rfl, ⟨hT, hF, ⟨hR.1.fr hF (by decide), hR.2.fr hF (by decide)⟩⟩, ⟨by rw [ht]; exact hP, hD⟩⟩, hS.F ht⟩) hS.2.2 dX7_copy_187
                      · refine lv_iload hx hb dX7_copy_127 (lv_at hl 4 rfl) ?_
                        refine lv_if_lt (tgt := 181) hx hb dX7_copy_129 (by decide) (fun (c_78 : x4 < 0) => ?_) (fun (c_78 : ¬ (x4 < 0)) => ?_)
                        · refine lv_aload_n hx hb dX7_copy_181 rfl (lv_at hl 0 rfl) ?_
                          refine lv_bipush (v := (-2)) hx hb dX7_copy_182 (by decide) ?_
                          refine tm_V (As := [.int (-2)]) (rest := []) ⟨hx, hb, hml, hown, htg⟩ (c_X7_refuse l D E G _ a C n hn hT ((-2) : Int32) (rg_w (rg_c (v := (-2)) (lo := (-2)) (hi := (-2)) (by decide)) (by decide))) (cwV 1 htg (oh_gV q_1071 q_1073 q_29 q_73 q_1074) rfl rfl rfl pdVX7_refuse ⟨Nat.le_of_ble_eq_true rfl, Nat.le_of_ble_eq_true rfl⟩) hK hP hD hG hS hA (va_recv hK hP (ci := 7) (q0 := 0) rfl (oh_wg (Nat.lt_of_lt_of_le (by decide) hn) (sM_0 hT))) rfl hl.1 rfl (Nat.le_of_ble_eq_true rfl) dX7_copy_184 ⟨Nat.le_of_ble_eq_true rfl, Nat.le_of_ble_eq_true rfl⟩ (fun r_79 C_80 H locs hq_81 hP hD hS => ?_)
                          obtain ⟨hT, f_82, hq_81⟩ := hq_81
                          have hF := fr_tr hF f_82 (by decide) (by decide)
                          refine W.widen (k := 0) (n := 0) (Nat.le_refl _) (Nat.le_refl _) ?_
                          have t_83 := hT
                          rw [hQ]
                          exact W.iret (v := r_79) hx hb hr (fun t ht hW => ⟨⟨r_79, C_80, rfl, ⟨hT, hF, ⟨hR.1.fr hF (by decide), hR.2.fr hF (by decide)⟩⟩, ⟨by rw [ht]; exact hP, hD⟩⟩, hS.F ht⟩) hS.2.2 dX7_copy_187
                        · refine lv_iload hx hb dX7_copy_132 (lv_at hl 5 rfl) ?_
                          refine lv_aload_n hx hb dX7_copy_134 rfl (lv_at hl 0 rfl) ?_
                          refine va_get (D := D) (ci := 7) (v := .ref (a 3)) (C := RX7) (T := TX7) (N := 29) hx hb htg ig_7 hown hK hP 0 (oh_wg (Nat.lt_of_lt_of_le (by decide) hn) (sM_0 hT)) rfl 2 (by decide) (htg _ q_975) (fun _ h9 => h9) rfl dX7_copy_135 ?_
                          refine lv_iload_n hx hb dX7_copy_138 rfl (lv_at hl 1 rfl) ?_
                          have n_84 : vp_in x1 8 := (rg_in (rg_il (rgL_i (rg_il (rnL_leu u_10.2 (rnL_lel u_10.1 (rgL_c (v := 0) (lo := 0) (hi := 0) (by decide)) (rgL_i (rg_any _))) (rgL_c (v := 7) (lo := 7) (hi := 7) (by decide)))))) (by decide))
                          refine th_iald hx hb hK hP 3 (Nat.lt_of_lt_of_le (by decide) hn) (sM_3 hT) n_84 dX7_copy_139 ?_
                          refine lv_icmp_gt (tgt := 181) hx hb dX7_copy_140 (by decide) (fun (c_85 : (ga (C 3) (x1).toNatClampNeg) < x5) => ?_) (fun (c_85 : ¬ ((ga (C 3) (x1).toNatClampNeg) < x5)) => ?_)
                          · refine lv_aload_n hx hb dX7_copy_181 rfl (lv_at hl 0 rfl) ?_
                            refine lv_bipush (v := (-2)) hx hb dX7_copy_182 (by decide) ?_
                            refine tm_V (As := [.int (-2)]) (rest := []) ⟨hx, hb, hml, hown, htg⟩ (c_X7_refuse l D E G _ a C n hn hT ((-2) : Int32) (rg_w (rg_c (v := (-2)) (lo := (-2)) (hi := (-2)) (by decide)) (by decide))) (cwV 1 htg (oh_gV q_1071 q_1073 q_29 q_73 q_1074) rfl rfl rfl pdVX7_refuse ⟨Nat.le_of_ble_eq_true rfl, Nat.le_of_ble_eq_true rfl⟩) hK hP hD hG hS hA (va_recv hK hP (ci := 7) (q0 := 0) rfl (oh_wg (Nat.lt_of_lt_of_le (by decide) hn) (sM_0 hT))) rfl hl.1 rfl (Nat.le_of_ble_eq_true rfl) dX7_copy_184 ⟨Nat.le_of_ble_eq_true rfl, Nat.le_of_ble_eq_true rfl⟩ (fun r_86 C_87 H locs hq_88 hP hD hS => ?_)
                            obtain ⟨hT, f_89, hq_88⟩ := hq_88
                            have hF := fr_tr hF f_89 (by decide) (by decide)
                            refine W.widen (k := 0) (n := 0) (Nat.le_refl _) (Nat.le_refl _) ?_
                            have t_90 := hT
                            rw [hQ]
                            exact W.iret (v := r_86) hx hb hr (fun t ht hW => ⟨⟨r_86, C_87, rfl, ⟨hT, hF, ⟨hR.1.fr hF (by decide), hR.2.fr hF (by decide)⟩⟩, ⟨by rw [ht]; exact hP, hD⟩⟩, hS.F ht⟩) hS.2.2 dX7_copy_187
                          · refine lv_iload hx hb dX7_copy_143 (lv_at hl 5 rfl) ?_
                            refine lv_aload_n hx hb dX7_copy_145 rfl (lv_at hl 0 rfl) ?_
                            refine va_get (D := D) (ci := 7) (v := .ref (a 3)) (C := RX7) (T := TX7) (N := 29) hx hb htg ig_7 hown hK hP 0 (oh_wg (Nat.lt_of_lt_of_le (by decide) hn) (sM_0 hT)) rfl 2 (by decide) (htg _ q_975) (fun _ h9 => h9) rfl dX7_copy_146 ?_
                            refine lv_iload_n hx hb dX7_copy_149 rfl (lv_at hl 2 rfl) ?_
                            have n_91 : vp_in x2 8 := (rg_in (rg_il (rgL_i (rg_il (rnL_leu u_14.2 (rnL_lel u_14.1 (rgL_c (v := 0) (lo := 0) (hi := 0) (by decide)) (rgL_i (rg_any _))) (rgL_c (v := 7) (lo := 7) (hi := 7) (by decide)))))) (by decide))
                            refine th_iald hx hb hK hP 3 (Nat.lt_of_lt_of_le (by decide) hn) (sM_3 hT) n_91 dX7_copy_150 ?_
                            refine lv_icmp_gt (tgt := 181) hx hb dX7_copy_151 (by decide) (fun (c_92 : (ga (C 3) (x2).toNatClampNeg) < x5) => ?_) (fun (c_92 : ¬ ((ga (C 3) (x2).toNatClampNeg) < x5)) => ?_)
                            · refine lv_aload_n hx hb dX7_copy_181 rfl (lv_at hl 0 rfl) ?_
                              refine lv_bipush (v := (-2)) hx hb dX7_copy_182 (by decide) ?_
                              refine tm_V (As := [.int (-2)]) (rest := []) ⟨hx, hb, hml, hown, htg⟩ (c_X7_refuse l D E G _ a C n hn hT ((-2) : Int32) (rg_w (rg_c (v := (-2)) (lo := (-2)) (hi := (-2)) (by decide)) (by decide))) (cwV 1 htg (oh_gV q_1071 q_1073 q_29 q_73 q_1074) rfl rfl rfl pdVX7_refuse ⟨Nat.le_of_ble_eq_true rfl, Nat.le_of_ble_eq_true rfl⟩) hK hP hD hG hS hA (va_recv hK hP (ci := 7) (q0 := 0) rfl (oh_wg (Nat.lt_of_lt_of_le (by decide) hn) (sM_0 hT))) rfl hl.1 rfl (Nat.le_of_ble_eq_true rfl) dX7_copy_184 ⟨Nat.le_of_ble_eq_true rfl, Nat.le_of_ble_eq_true rfl⟩ (fun r_93 C_94 H locs hq_95 hP hD hS => ?_)
                              obtain ⟨hT, f_96, hq_95⟩ := hq_95
                              have hF := fr_tr hF f_96 (by decide) (by decide)
                              refine W.widen (k := 0) (n := 0) (Nat.le_refl _) (Nat.le_refl _) ?_
                              have t_97 := hT
                              rw [hQ]
                              exact W.iret (v := r_93) hx hb hr (fun t ht hW => ⟨⟨r_93, C_94, rfl, ⟨hT, hF, ⟨hR.1.fr hF (by decide), hR.2.fr hF (by decide)⟩⟩, ⟨by rw [ht]; exact hP, hD⟩⟩, hS.F ht⟩) hS.2.2 dX7_copy_187
                            · refine lv_iload_n hx hb dX7_copy_154 rfl (lv_at hl 3 rfl) ?_
                              refine lv_aload_n hx hb dX7_copy_155 rfl (lv_at hl 0 rfl) ?_
                              refine va_get (D := D) (ci := 7) (v := .ref (a 3)) (C := RX7) (T := TX7) (N := 29) hx hb htg ig_7 hown hK hP 0 (oh_wg (Nat.lt_of_lt_of_le (by decide) hn) (sM_0 hT)) rfl 2 (by decide) (htg _ q_975) (fun _ h9 => h9) rfl dX7_copy_156 ?_
                              refine lv_iload_n hx hb dX7_copy_159 rfl (lv_at hl 1 rfl) ?_
                              have n_98 : vp_in x1 8 := (rg_in (rg_il (rgL_i (rg_il (rnL_leu u_10.2 (rnL_lel u_10.1 (rgL_c (v := 0) (lo := 0) (hi := 0) (by decide)) (rgL_i (rg_any _))) (rgL_c (v := 7) (lo := 7) (hi := 7) (by decide)))))) (by decide))
                              refine th_iald hx hb hK hP 3 (Nat.lt_of_lt_of_le (by decide) hn) (sM_3 hT) n_98 dX7_copy_160 ?_
                              refine lv_iload hx hb dX7_copy_161 (lv_at hl 5 rfl) ?_
                              refine lv_isub hx hb dX7_copy_163 ?_
                              refine lv_icmp_gt (tgt := 181) hx hb dX7_copy_164 (by decide) (fun (c_99 : ((ga (C 3) (x1).toNatClampNeg) - x5) < x3) => ?_) (fun (c_99 : ¬ (((ga (C 3) (x1).toNatClampNeg) - x5) < x3)) => ?_)
                              · refine lv_aload_n hx hb dX7_copy_181 rfl (lv_at hl 0 rfl) ?_
                                refine lv_bipush (v := (-2)) hx hb dX7_copy_182 (by decide) ?_
                                refine tm_V (As := [.int (-2)]) (rest := []) ⟨hx, hb, hml, hown, htg⟩ (c_X7_refuse l D E G _ a C n hn hT ((-2) : Int32) (rg_w (rg_c (v := (-2)) (lo := (-2)) (hi := (-2)) (by decide)) (by decide))) (cwV 1 htg (oh_gV q_1071 q_1073 q_29 q_73 q_1074) rfl rfl rfl pdVX7_refuse ⟨Nat.le_of_ble_eq_true rfl, Nat.le_of_ble_eq_true rfl⟩) hK hP hD hG hS hA (va_recv hK hP (ci := 7) (q0 := 0) rfl (oh_wg (Nat.lt_of_lt_of_le (by decide) hn) (sM_0 hT))) rfl hl.1 rfl (Nat.le_of_ble_eq_true rfl) dX7_copy_184 ⟨Nat.le_of_ble_eq_true rfl, Nat.le_of_ble_eq_true rfl⟩ (fun r_100 C_101 H locs hq_102 hP hD hS => ?_)
                                obtain ⟨hT, f_103, hq_102⟩ := hq_102
                                have hF := fr_tr hF f_103 (by decide) (by decide)
                                refine W.widen (k := 0) (n := 0) (Nat.le_refl _) (Nat.le_refl _) ?_
                                have t_104 := hT
                                rw [hQ]
                                exact W.iret (v := r_100) hx hb hr (fun t ht hW => ⟨⟨r_100, C_101, rfl, ⟨hT, hF, ⟨hR.1.fr hF (by decide), hR.2.fr hF (by decide)⟩⟩, ⟨by rw [ht]; exact hP, hD⟩⟩, hS.F ht⟩) hS.2.2 dX7_copy_187
                              · refine lv_iload hx hb dX7_copy_167 (lv_at hl 4 rfl) ?_
                                refine lv_aload_n hx hb dX7_copy_169 rfl (lv_at hl 0 rfl) ?_
                                refine va_get (D := D) (ci := 7) (v := .ref (a 3)) (C := RX7) (T := TX7) (N := 29) hx hb htg ig_7 hown hK hP 0 (oh_wg (Nat.lt_of_lt_of_le (by decide) hn) (sM_0 hT)) rfl 2 (by decide) (htg _ q_975) (fun _ h9 => h9) rfl dX7_copy_170 ?_
                                refine lv_iload_n hx hb dX7_copy_173 rfl (lv_at hl 2 rfl) ?_
                                have n_105 : vp_in x2 8 := (rg_in (rg_il (rgL_i (rg_il (rnL_leu u_14.2 (rnL_lel u_14.1 (rgL_c (v := 0) (lo := 0) (hi := 0) (by decide)) (rgL_i (rg_any _))) (rgL_c (v := 7) (lo := 7) (hi := 7) (by decide)))))) (by decide))
                                refine th_iald hx hb hK hP 3 (Nat.lt_of_lt_of_le (by decide) hn) (sM_3 hT) n_105 dX7_copy_174 ?_
                                refine lv_iload hx hb dX7_copy_175 (lv_at hl 5 rfl) ?_
                                refine lv_isub hx hb dX7_copy_177 ?_
                                refine lv_icmp_le (tgt := 188) hx hb dX7_copy_178 (by decide) (fun (c_106 : x4 ≤ ((ga (C 3) (x2).toNatClampNeg) - x5)) => ?_) (fun (c_106 : ¬ (x4 ≤ ((ga (C 3) (x2).toNatClampNeg) - x5))) => ?_)
                                · refine lv_iconst (v := 0) hx hb dX7_copy_188 (by decide) ?_
                                  refine lv_istore (lv' := [(6, .int 0), (0, .ref (a 0)), (1, .int x1), (2, .int x2), (3, .int x3), (4, .int x4), (5, .int x5)]) hx hb dX7_copy_189 hl (by decide) rfl (fun ls hl => ?_)
                                  have L_191 : ∀ (d : Nat) (K191 : Nat → va_E) (z191_6 : Int32) (H : Heap) (locs : List Loc) (ls : Array Slot), (40 - z191_6.toInt).toNat = d → rg z191_6 0 40 → TyM a E K191 → fr [(5, 6), (8, 9), (16, 24)] [] C K191 → fr [(5, 6)] [] C K191 → va_P D vwCl (oh_W n a K191) H → va_D A (oh_W n a K191) → va_S A s.heap H locs → lv_has ls 7 [(6, .int z191_6), (0, .ref (a 0)), (1, .int x1), (2, .int x2), (3, .int x3), (4, .int x4), (5, .int x5)] → W p l e ({ frames := 1, cells := 0, slots := 0, locals := 25 }) s m (([.ref (a 0), .int x1, .int x2, .int x3, .int x4, .int x5] : List Value).toArray) below meth c H locs 0 0 Q (F0 m 191 ls []) := by
                                    intro d
                                    induction d using Nat.strongRecOn with
                                    | ind d ih_191 =>
                                    intro K191 z191_6 H locs ls hd_191 hz191_6 hT hF hLF_191 hP hD hS hl
                                    have t_107 := hT
                                    refine lv_iload hx hb dX7_copy_191 (lv_at hl 0 rfl) ?_
                                    refine lv_iload hx hb dX7_copy_193 (lv_at hl 6 rfl) ?_
                                    refine lv_icmp_ge (tgt := 222) hx hb dX7_copy_195 (by decide) (fun (c_108 : x5 ≤ z191_6) => ?_) (fun (c_108 : ¬ (x5 ≤ z191_6)) => ?_)
                                    · refine lv_iconst (v := 0) hx hb dX7_copy_222 (by decide) ?_
                                      refine lv_istore (lv' := [(6, .int 0), (0, .ref (a 0)), (1, .int x1), (2, .int x2), (3, .int x3), (4, .int x4), (5, .int x5)]) hx hb dX7_copy_223 hl (by decide) rfl (fun ls hl => ?_)
                                      have L_225 : ∀ (d : Nat) (K225 : Nat → va_E) (z225_6 : Int32) (H : Heap) (locs : List Loc) (ls : Array Slot), (40 - z225_6.toInt).toNat = d → rg z225_6 0 40 → TyM a E K225 → fr [(5, 6), (8, 9), (16, 24)] [] C K225 → fr [(16, 24)] [] K191 K225 → va_P D vwCl (oh_W n a K225) H → va_D A (oh_W n a K225) → va_S A s.heap H locs → lv_has ls 7 [(6, .int z225_6), (0, .ref (a 0)), (1, .int x1), (2, .int x2), (3, .int x3), (4, .int x4), (5, .int x5)] → W p l e ({ frames := 1, cells := 0, slots := 0, locals := 25 }) s m (([.ref (a 0), .int x1, .int x2, .int x3, .int x4, .int x5] : List Value).toArray) below meth c H locs 0 0 Q (F0 m 225 ls []) := by
                                        intro d
                                        induction d using Nat.strongRecOn with
                                        | ind d ih_225 =>
                                        intro K225 z225_6 H locs ls hd_225 hz225_6 hT hF hLF_225 hP hD hS hl
                                        have t_109 := hT
                                        refine lv_iload hx hb dX7_copy_225 (lv_at hl 0 rfl) ?_
                                        refine lv_iload hx hb dX7_copy_227 (lv_at hl 6 rfl) ?_
                                        refine lv_icmp_ge (tgt := 257) hx hb dX7_copy_229 (by decide) (fun (c_110 : x5 ≤ z225_6) => ?_) (fun (c_110 : ¬ (x5 ≤ z225_6)) => ?_)
                                        · refine lv_iload hx hb dX7_copy_257 (lv_at hl 6 rfl) ?_
                                          rw [hQ]
                                          exact W.iret (v := x5) hx hb hr (fun t ht hW => ⟨⟨x5, K225, rfl, ⟨hT, hF, ⟨hR.1.fr hF (by decide), hR.2.fr hF (by decide)⟩⟩, ⟨by rw [ht]; exact hP, hD⟩⟩, hS.F ht⟩) hS.2.2 dX7_copy_259
                                        · refine lv_aload_n hx hb dX7_copy_232 rfl (lv_at hl 1 rfl) ?_
                                          refine va_get (D := D) (ci := 7) (v := .ref (a 4)) (C := RX7) (T := TX7) (N := 29) hx hb htg ig_7 hown hK hP 0 (oh_wg (Nat.lt_of_lt_of_le (by decide) hn) (sM_0 hT)) rfl 3 (by decide) (htg _ q_976) (fun _ h9 => h9) rfl dX7_copy_233 ?_
                                          refine lv_iload_n hx hb dX7_copy_236 rfl (lv_at hl 3 rfl) ?_
                                          have n_111 : vp_in x2 8 := (rg_in (rg_il (rgL_i (rg_il (rnL_leu u_14.2 (rnL_lel u_14.1 (rgL_c (v := 0) (lo := 0) (hi := 0) (by decide)) (rgL_i (rg_any _))) (rgL_c (v := 7) (lo := 7) (hi := 7) (by decide)))))) (by decide))
                                          have b_112 : (x2).toNatClampNeg < 8 := vp_lt n_111
                                          refine th_aald hx hb hK hP 4 3 (Nat.lt_of_lt_of_le (by decide) hn) (sM_4 hT) rfl n_111 dX7_copy_237 ?_
                                          refine lv_iload hx hb dX7_copy_238 (lv_at hl 5 rfl) ?_
                                          refine lv_iload hx hb dX7_copy_240 (lv_at hl 0 rfl) ?_
                                          refine lv_iadd hx hb dX7_copy_242 ?_
                                          refine lv_aload_n hx hb dX7_copy_243 rfl (lv_at hl 1 rfl) ?_
                                          refine va_get (D := D) (ci := 7) (v := .ref (a 5)) (C := RX7) (T := TX7) (N := 29) hx hb htg ig_7 hown hK hP 0 (oh_wg (Nat.lt_of_lt_of_le (by decide) hn) (sM_0 hT)) rfl 4 (by decide) (htg _ q_977) (fun _ h9 => h9) rfl dX7_copy_244 ?_
                                          refine lv_iload hx hb dX7_copy_247 (lv_at hl 0 rfl) ?_
                                          have n_113 : vp_in z225_6 40 := (rg_in (rn_ltu (u' := 39) (Int32.not_le.mp c_110) hz225_6 (rn_leu (Int32.not_lt.mp c_85) (rn_lel (Int32.not_lt.mp c_66) (rg_c (v := 0) (lo := 0) (hi := 0) (by decide)) (rg_any _)) (tA_rdc (lo := 0) (hi := 40) (tM_3 hT0) n_84 (Nat.mod_one _) (by decide))) (by decide)) (by decide))
                                          refine th_lald hx hb hK hP 5 (Nat.lt_of_lt_of_le (by decide) hn) (Eq.trans (hLF_225.1 5 rfl (by decide)) (sM_5 t_107)) n_113 dX7_copy_249 ?_
                                          have n_114 : vp_in (x4 + z225_6) 40 := (oh_cix (rg_w (lo := 0) (hi := 2147483647) (rn_leu c_106 (rn_lel (Int32.not_lt.mp c_78) (rg_c (v := 0) (lo := 0) (hi := 0) (by decide)) (rg_any _)) (rg_sub (lo := (-39)) (hi := 39) (rn_lel (Int32.not_lt.mp c_92) (rn_ltl (l' := 1) (Int32.not_le.mp c_110) hz225_6 (rn_leu (Int32.not_lt.mp c_85) (rn_lel (Int32.not_lt.mp c_66) (rg_c (v := 0) (lo := 0) (hi := 0) (by decide)) (rg_any _)) (tA_rdc (lo := 0) (hi := 40) (tM_3 hT0) n_84 (Nat.mod_one _) (by decide))) (by decide)) (tA_rdc (lo := 0) (hi := 40) (tM_3 hT0) n_105 (Nat.mod_one _) (by decide))) (rn_ltl (l' := 1) (Int32.not_le.mp c_110) hz225_6 (rn_leu (Int32.not_lt.mp c_85) (rn_lel (Int32.not_lt.mp c_66) (rg_c (v := 0) (lo := 0) (hi := 0) (by decide)) (rg_any _)) (tA_rdc (lo := 0) (hi := 40) (tM_3 hT0) n_84 (Nat.mod_one _) (by decide))) (by decide)) (by decide))) (by decide)) (rg_w (lo := 0) (hi := 40) (rn_ltu (u' := 39) (Int32.not_le.mp c_110) hz225_6 (rn_leu (Int32.not_lt.mp c_85) (rn_lel (Int32.not_lt.mp c_66) (rg_c (v := 0) (lo := 0) (hi := 0) (by decide)) (rg_any _)) (tA_rdc (lo := 0) (hi := 40) (tM_3 hT0) n_84 (Nat.mod_one _) (by decide))) (by decide)) (by decide)) (rg_w (lo := 0) (hi := 40) (rn_ltl (l' := 1) (Int32.not_le.mp c_110) hz225_6 (rn_leu (Int32.not_lt.mp c_85) (rn_lel (Int32.not_lt.mp c_66) (rg_c (v := 0) (lo := 0) (hi := 0) (by decide)) (rg_any _)) (tA_rdc (lo := 0) (hi := 40) (tM_3 hT0) n_84 (Nat.mod_one _) (by decide))) (by decide)) (by decide)) (rg_w (lo := 0) (hi := 40) (rn_lel (Int32.not_lt.mp c_92) (rn_ltl (l' := 1) (Int32.not_le.mp c_110) hz225_6 (rn_leu (Int32.not_lt.mp c_85) (rn_lel (Int32.not_lt.mp c_66) (rg_c (v := 0) (lo := 0) (hi := 0) (by decide)) (rg_any _)) (tA_rdc (lo := 0) (hi := 40) (tM_3 hT0) n_84 (Nat.mod_one _) (by decide))) (by decide)) (tA_rdc (lo := 0) (hi := 40) (tM_3 hT0) n_105 (Nat.mod_one _) (by decide))) (by decide)) c_106 (Int32.not_le.mp c_110))
                                          refine th_last (T := TyM a E) (Rl := fr [(5, 6), (8, 9), (16, 24)] [] C) hx hb hK hP hD hS (16 + (x2).toNatClampNeg) (lt_blk b_112 hn (by decide)) (hT.brows b_112) n_114 (hT.uprows b_112 rfl) (fr_st hF (by omega) (inR_of (p := (16, 24)) (by decide) (by show 16 ≤ _; omega) (by show _ < 24; omega))) dX7_copy_250 (fun C_115 H locs e_116 hT hF hP hD hS => ?_)
                                          have t_117 := hT
                                          refine lv_iinc (v := z225_6 + 1) (lv' := [(6, .int (z225_6 + 1)), (0, .ref (a 0)), (1, .int x1), (2, .int x2), (3, .int x3), (4, .int x4), (5, .int x5)]) hx hb dX7_copy_251 hl (k := 0) rfl (by rfl) (by decide) rfl (fun ls hl => ?_)
                                          refine lv_goto (tgt := 225) hx hb dX7_copy_254 (by decide) ?_
                                          exact ih_225 _ (hd_225 ▸ mu_up 40 (rn_ltu (u' := 39) (Int32.not_le.mp c_110) hz225_6 (rn_leu (Int32.not_lt.mp c_85) (rn_lel (Int32.not_lt.mp c_66) (rg_c (v := 0) (lo := 0) (hi := 0) (by decide)) (rg_any _)) (tA_rdc (lo := 0) (hi := 40) (tM_3 hT0) n_84 (Nat.mod_one _) (by decide))) (by decide)) (by decide)) C_115 (z225_6 + 1) _ _ ls rfl (rg_w (rg_add (lo := 1) (hi := 40) (rn_ltu (u' := 39) (Int32.not_le.mp c_110) hz225_6 (rn_leu (Int32.not_lt.mp c_85) (rn_lel (Int32.not_lt.mp c_66) (rg_c (v := 0) (lo := 0) (hi := 0) (by decide)) (rg_any _)) (tA_rdc (lo := 0) (hi := 40) (tM_3 hT0) n_84 (Nat.mod_one _) (by decide))) (by decide)) (rg_c (v := 1) (lo := 1) (hi := 1) (by decide)) (by decide)) (by decide)) hT hF (fr_ste hLF_225 e_116 (by omega) (inR_of (p := (16, 24)) (by decide) (by show 16 ≤ _; omega) (by show _ < 24; omega))) hP hD hS (lv_sub hl [0, 1, 2, 3, 4, 5, 6] rfl)
                                      exact L_225 _ K191 0 _ _ ls rfl (rg_w (rg_c (v := 0) (lo := 0) (hi := 0) (by decide)) (by decide)) hT hF fr_rf hP hD hS (lv_sub hl [0, 1, 2, 3, 4, 5, 6] rfl)
                                    · refine lv_aload_n hx hb dX7_copy_198 rfl (lv_at hl 1 rfl) ?_
                                      refine va_get (D := D) (ci := 7) (v := .ref (a 5)) (C := RX7) (T := TX7) (N := 29) hx hb htg ig_7 hown hK hP 0 (oh_wg (Nat.lt_of_lt_of_le (by decide) hn) (sM_0 hT)) rfl 4 (by decide) (htg _ q_977) (fun _ h9 => h9) rfl dX7_copy_199 ?_
                                      refine lv_iload hx hb dX7_copy_202 (lv_at hl 0 rfl) ?_
                                      refine lv_aload_n hx hb dX7_copy_204 rfl (lv_at hl 1 rfl) ?_
                                      refine va_get (D := D) (ci := 7) (v := .ref (a 4)) (C := RX7) (T := TX7) (N := 29) hx hb htg ig_7 hown hK hP 0 (oh_wg (Nat.lt_of_lt_of_le (by decide) hn) (sM_0 hT)) rfl 3 (by decide) (htg _ q_976) (fun _ h9 => h9) rfl dX7_copy_205 ?_
                                      refine lv_iload_n hx hb dX7_copy_208 rfl (lv_at hl 2 rfl) ?_
                                      have n_118 : vp_in x1 8 := (rg_in (rg_il (rgL_i (rg_il (rnL_leu u_10.2 (rnL_lel u_10.1 (rgL_c (v := 0) (lo := 0) (hi := 0) (by decide)) (rgL_i (rg_any _))) (rgL_c (v := 7) (lo := 7) (hi := 7) (by decide)))))) (by decide))
                                      have b_119 : (x1).toNatClampNeg < 8 := vp_lt n_118
                                      refine th_aald hx hb hK hP 4 3 (Nat.lt_of_lt_of_le (by decide) hn) (sM_4 hT) rfl n_118 dX7_copy_209 ?_
                                      refine lv_iload_n hx hb dX7_copy_210 rfl (lv_at hl 4 rfl) ?_
                                      refine lv_iload hx hb dX7_copy_211 (lv_at hl 0 rfl) ?_
                                      refine lv_iadd hx hb dX7_copy_213 ?_
                                      have n_120 : vp_in (x3 + z191_6) 40 := (oh_cix (rg_w (lo := 0) (hi := 2147483647) (rn_leu (Int32.not_lt.mp c_99) (rn_lel (Int32.not_lt.mp c_72) (rg_c (v := 0) (lo := 0) (hi := 0) (by decide)) (rg_any _)) (rg_sub (lo := (-39)) (hi := 39) (rn_lel (Int32.not_lt.mp c_85) (rn_ltl (l' := 1) (Int32.not_le.mp c_108) hz191_6 (rn_leu (Int32.not_lt.mp c_92) (rn_lel (Int32.not_lt.mp c_66) (rg_c (v := 0) (lo := 0) (hi := 0) (by decide)) (rg_any _)) (tA_rdc (lo := 0) (hi := 40) (tM_3 hT0) n_91 (Nat.mod_one _) (by decide))) (by decide)) (tA_rdc (lo := 0) (hi := 40) (tM_3 hT0) n_98 (Nat.mod_one _) (by decide))) (rn_ltl (l' := 1) (Int32.not_le.mp c_108) hz191_6 (rn_leu (Int32.not_lt.mp c_85) (rn_lel (Int32.not_lt.mp c_66) (rg_c (v := 0) (lo := 0) (hi := 0) (by decide)) (rg_any _)) (tA_rdc (lo := 0) (hi := 40) (tM_3 hT0) n_84 (Nat.mod_one _) (by decide))) (by decide)) (by decide))) (by decide)) (rg_w (lo := 0) (hi := 40) (rn_ltu (u' := 39) (Int32.not_le.mp c_108) hz191_6 (rn_leu (Int32.not_lt.mp c_85) (rn_lel (Int32.not_lt.mp c_66) (rg_c (v := 0) (lo := 0) (hi := 0) (by decide)) (rg_any _)) (tA_rdc (lo := 0) (hi := 40) (tM_3 hT0) n_84 (Nat.mod_one _) (by decide))) (by decide)) (by decide)) (rg_w (lo := 0) (hi := 40) (rn_ltl (l' := 1) (Int32.not_le.mp c_108) hz191_6 (rn_leu (Int32.not_lt.mp c_85) (rn_lel (Int32.not_lt.mp c_66) (rg_c (v := 0) (lo := 0) (hi := 0) (by decide)) (rg_any _)) (tA_rdc (lo := 0) (hi := 40) (tM_3 hT0) n_84 (Nat.mod_one _) (by decide))) (by decide)) (by decide)) (rg_w (lo := 0) (hi := 40) (rn_lel (Int32.not_lt.mp c_85) (rn_ltl (l' := 1) (Int32.not_le.mp c_108) hz191_6 (rn_leu (Int32.not_lt.mp c_92) (rn_lel (Int32.not_lt.mp c_66) (rg_c (v := 0) (lo := 0) (hi := 0) (by decide)) (rg_any _)) (tA_rdc (lo := 0) (hi := 40) (tM_3 hT0) n_91 (Nat.mod_one _) (by decide))) (by decide)) (tA_rdc (lo := 0) (hi := 40) (tM_3 hT0) n_98 (Nat.mod_one _) (by decide))) (by decide)) (Int32.not_lt.mp c_99) (Int32.not_le.mp c_108))
                                      refine th_lald hx hb hK hP (16 + (x1).toNatClampNeg) (lt_blk b_119 hn (by decide)) (Eq.trans (hLF_191.1 (16 + (x1).toNatClampNeg) (by have h9 := b_119; exact inR_out h9 (by decide)) (by omega)) (hT0.brows b_119)) n_120 dX7_copy_214 ?_
                                      have n_121 : vp_in z191_6 40 := (rg_in (rn_ltu (u' := 39) (Int32.not_le.mp c_108) hz191_6 (rn_leu (Int32.not_lt.mp c_85) (rn_lel (Int32.not_lt.mp c_66) (rg_c (v := 0) (lo := 0) (hi := 0) (by decide)) (rg_any _)) (tA_rdc (lo := 0) (hi := 40) (tM_3 hT0) n_84 (Nat.mod_one _) (by decide))) (by decide)) (by decide))
                                      refine th_last (T := TyM a E) (Rl := fr [(5, 6), (8, 9), (16, 24)] [] C) hx hb hK hP hD hS 5 (Nat.lt_of_lt_of_le (by decide) hn) (sM_5 hT) n_121 (hT.up 5 (by decide) rfl) (fr_st hF (by decide) (by decide)) dX7_copy_215 (fun C_122 H locs e_123 hT hF hP hD hS => ?_)
                                      have t_124 := hT
                                      refine lv_iinc (v := z191_6 + 1) (lv' := [(6, .int (z191_6 + 1)), (0, .ref (a 0)), (1, .int x1), (2, .int x2), (3, .int x3), (4, .int x4), (5, .int x5)]) hx hb dX7_copy_216 hl (k := 0) rfl (by rfl) (by decide) rfl (fun ls hl => ?_)
                                      refine lv_goto (tgt := 191) hx hb dX7_copy_219 (by decide) ?_
                                      exact ih_191 _ (hd_191 ▸ mu_up 40 (rn_ltu (u' := 39) (Int32.not_le.mp c_108) hz191_6 (rn_leu (Int32.not_lt.mp c_85) (rn_lel (Int32.not_lt.mp c_66) (rg_c (v := 0) (lo := 0) (hi := 0) (by decide)) (rg_any _)) (tA_rdc (lo := 0) (hi := 40) (tM_3 hT0) n_84 (Nat.mod_one _) (by decide))) (by decide)) (by decide)) C_122 (z191_6 + 1) _ _ ls rfl (rg_w (rg_add (lo := 1) (hi := 40) (rn_ltu (u' := 39) (Int32.not_le.mp c_108) hz191_6 (rn_leu (Int32.not_lt.mp c_85) (rn_lel (Int32.not_lt.mp c_66) (rg_c (v := 0) (lo := 0) (hi := 0) (by decide)) (rg_any _)) (tA_rdc (lo := 0) (hi := 40) (tM_3 hT0) n_84 (Nat.mod_one _) (by decide))) (by decide)) (rg_c (v := 1) (lo := 1) (hi := 1) (by decide)) (by decide)) (by decide)) hT hF (fr_ste hLF_191 e_123 (by decide) (by decide)) hP hD hS (lv_sub hl [0, 1, 2, 3, 4, 5, 6] rfl)
                                  exact L_191 _ C 0 _ _ ls rfl (rg_w (rg_c (v := 0) (lo := 0) (hi := 0) (by decide)) (by decide)) hT hF fr_rf hP hD hS (lv_sub hl [0, 1, 2, 3, 4, 5, 6] rfl)
                                · refine lv_aload_n hx hb dX7_copy_181 rfl (lv_at hl 0 rfl) ?_
                                  refine lv_bipush (v := (-2)) hx hb dX7_copy_182 (by decide) ?_
                                  refine tm_V (As := [.int (-2)]) (rest := []) ⟨hx, hb, hml, hown, htg⟩ (c_X7_refuse l D E G _ a C n hn hT ((-2) : Int32) (rg_w (rg_c (v := (-2)) (lo := (-2)) (hi := (-2)) (by decide)) (by decide))) (cwV 1 htg (oh_gV q_1071 q_1073 q_29 q_73 q_1074) rfl rfl rfl pdVX7_refuse ⟨Nat.le_of_ble_eq_true rfl, Nat.le_of_ble_eq_true rfl⟩) hK hP hD hG hS hA (va_recv hK hP (ci := 7) (q0 := 0) rfl (oh_wg (Nat.lt_of_lt_of_le (by decide) hn) (sM_0 hT))) rfl hl.1 rfl (Nat.le_of_ble_eq_true rfl) dX7_copy_184 ⟨Nat.le_of_ble_eq_true rfl, Nat.le_of_ble_eq_true rfl⟩ (fun r_125 C_126 H locs hq_127 hP hD hS => ?_)
                                  obtain ⟨hT, f_128, hq_127⟩ := hq_127
                                  have hF := fr_tr hF f_128 (by decide) (by decide)
                                  refine W.widen (k := 0) (n := 0) (Nat.le_refl _) (Nat.le_refl _) ?_
                                  have t_129 := hT
                                  rw [hQ]
                                  exact W.iret (v := r_125) hx hb hr (fun t ht hW => ⟨⟨r_125, C_126, rfl, ⟨hT, hF, ⟨hR.1.fr hF (by decide), hR.2.fr hF (by decide)⟩⟩, ⟨by rw [ht]; exact hP, hD⟩⟩, hS.F ht⟩) hS.2.2 dX7_copy_187
                  · refine lv_aload_n hx hb dX7_copy_111 rfl (lv_at hl 0 rfl) ?_
                    refine lv_bipush (v := (-4)) hx hb dX7_copy_112 (by decide) ?_
                    refine tm_V (As := [.int (-4)]) (rest := []) ⟨hx, hb, hml, hown, htg⟩ (c_X7_refuse l D E G _ a C n hn hT ((-4) : Int32) (rg_w (rg_c (v := (-4)) (lo := (-4)) (hi := (-4)) (by decide)) (by decide))) (cwV 1 htg (oh_gV q_1071 q_1073 q_29 q_73 q_1074) rfl rfl rfl pdVX7_refuse ⟨Nat.le_of_ble_eq_true rfl, Nat.le_of_ble_eq_true rfl⟩) hK hP hD hG hS hA (va_recv hK hP (ci := 7) (q0 := 0) rfl (oh_wg (Nat.lt_of_lt_of_le (by decide) hn) (sM_0 hT))) rfl hl.1 rfl (Nat.le_of_ble_eq_true rfl) dX7_copy_114 ⟨Nat.le_of_ble_eq_true rfl, Nat.le_of_ble_eq_true rfl⟩ (fun r_130 C_131 H locs hq_132 hP hD hS => ?_)
                    obtain ⟨hT, f_133, hq_132⟩ := hq_132
                    have hF := fr_tr hF f_133 (by decide) (by decide)
                    refine W.widen (k := 0) (n := 0) (Nat.le_refl _) (Nat.le_refl _) ?_
                    have t_134 := hT
                    rw [hQ]
                    exact W.iret (v := r_130) hx hb hr (fun t ht hW => ⟨⟨r_130, C_131, rfl, ⟨hT, hF, ⟨hR.1.fr hF (by decide), hR.2.fr hF (by decide)⟩⟩, ⟨by rw [ht]; exact hP, hD⟩⟩, hS.F ht⟩) hS.2.2 dX7_copy_117
              · refine lv_aload_n hx hb dX7_copy_86 rfl (lv_at hl 0 rfl) ?_
                refine lv_bipush (v := (-3)) hx hb dX7_copy_87 (by decide) ?_
                refine tm_V (As := [.int (-3)]) (rest := []) ⟨hx, hb, hml, hown, htg⟩ (c_X7_refuse l D E G _ a C n hn hT ((-3) : Int32) (rg_w (rg_c (v := (-3)) (lo := (-3)) (hi := (-3)) (by decide)) (by decide))) (cwV 1 htg (oh_gV q_1071 q_1073 q_29 q_73 q_1074) rfl rfl rfl pdVX7_refuse ⟨Nat.le_of_ble_eq_true rfl, Nat.le_of_ble_eq_true rfl⟩) hK hP hD hG hS hA (va_recv hK hP (ci := 7) (q0 := 0) rfl (oh_wg (Nat.lt_of_lt_of_le (by decide) hn) (sM_0 hT))) rfl hl.1 rfl (Nat.le_of_ble_eq_true rfl) dX7_copy_89 ⟨Nat.le_of_ble_eq_true rfl, Nat.le_of_ble_eq_true rfl⟩ (fun r_135 C_136 H locs hq_137 hP hD hS => ?_)
                obtain ⟨hT, f_138, hq_137⟩ := hq_137
                have hF := fr_tr hF f_138 (by decide) (by decide)
                refine W.widen (k := 0) (n := 0) (Nat.le_refl _) (Nat.le_refl _) ?_
                have t_139 := hT
                rw [hQ]
                exact W.iret (v := r_135) hx hb hr (fun t ht hW => ⟨⟨r_135, C_136, rfl, ⟨hT, hF, ⟨hR.1.fr hF (by decide), hR.2.fr hF (by decide)⟩⟩, ⟨by rw [ht]; exact hP, hD⟩⟩, hS.F ht⟩) hS.2.2 dX7_copy_92
    · have u_140 := hq_12.2.2 c_13
      refine lv_aload_n hx hb dX7_copy_24 rfl (lv_at hl 0 rfl) ?_
      refine lv_bipush (v := (-2)) hx hb dX7_copy_25 (by decide) ?_
      refine tm_V (As := [.int (-2)]) (rest := []) ⟨hx, hb, hml, hown, htg⟩ (c_X7_refuse l D E G _ a C n hn hT ((-2) : Int32) (rg_w (rg_c (v := (-2)) (lo := (-2)) (hi := (-2)) (by decide)) (by decide))) (cwV 1 htg (oh_gV q_1071 q_1073 q_29 q_73 q_1074) rfl rfl rfl pdVX7_refuse ⟨Nat.le_of_ble_eq_true rfl, Nat.le_of_ble_eq_true rfl⟩) hK hP hD hG hS hA (va_recv hK hP (ci := 7) (q0 := 0) rfl (oh_wg (Nat.lt_of_lt_of_le (by decide) hn) (sM_0 hT))) rfl hl.1 rfl (Nat.le_of_ble_eq_true rfl) dX7_copy_27 ⟨Nat.le_of_ble_eq_true rfl, Nat.le_of_ble_eq_true rfl⟩ (fun r_141 C_142 H locs hq_143 hP hD hS => ?_)
      obtain ⟨hT, f_144, hq_143⟩ := hq_143
      have hF := fr_tr hF f_144 (by decide) (by decide)
      refine W.widen (k := 0) (n := 0) (Nat.le_refl _) (Nat.le_refl _) ?_
      have t_145 := hT
      rw [hQ]
      exact W.iret (v := r_141) hx hb hr (fun t ht hW => ⟨⟨r_141, C_142, rfl, ⟨hT, hF, ⟨hR.1.fr hF (by decide), hR.2.fr hF (by decide)⟩⟩, ⟨by rw [ht]; exact hP, hD⟩⟩, hS.F ht⟩) hS.2.2 dX7_copy_30

set_option maxHeartbeats 4000000 in
set_option maxRecDepth 100000 in
theorem c_X7_element (l : Launch) (D : va_G) (E : Nat → ClassId) (G : Nat → Nat) (a : Nat → Nat) (C : Nat → va_E) (n : Nat) (hn : 74 ≤ n) (hT : TyM a E C) (x1 : Int32) (x2 : Int32) (hR : RelM C) : Met l yX7_element (oh_w yX7_element cX7_element 3 (some .long)) ({ frames := 1, cells := 0, slots := 0, locals := 25 }) (oh_Pp D E G [.ref (a 0), .int x1, .int x2] (oh_W n a C)) (vp_Sl (fun r => True)) 0 0 (fun _ => False) := by
  refine Met.ofW (cc := cX7_element) (maxL := 3) (ret := (some .long)) (by decide) rfl ?_
  intro p e s m args below meth c s₁ B hml hv
  obtain ⟨rfl, hP, hK, hG⟩ := hv
  have hx := B.exec
  have hb := B.bytes
  have hr := B.returns
  have hts := atoms_spec (ws := (oh_w yX7_element cX7_element 3 (some .long))) B.pre
  have htg : ∀ w ∈ oh_t, w.before _ s = true := fun w h => hts w (List.mem_cons_of_mem _ h)
  have hown : s.vm.findClass RX7 = some m.cls := findClass_of_methodNamed B.named
  have hlocks := B.notSynchronized
  have hT0 := hT
  have hS : va_S (fun _ => False) s.heap s.heap [] := va_S.rf
  have hl := lv_entry ([.ref (a 0), .int x1, .int x2]) (n := 3) (Nat.le_of_ble_eq_true rfl)
  rw [lg_entry_eq]
  generalize (lg_sl ([.ref (a 0), .int x1, .int x2]) ++ List.replicate (3 - (lg_sl ([.ref (a 0), .int x1, .int x2])).length) Slot.unset).toArray = ls at hl ⊢
  have hl : lv_has ls 3 [(0, .ref (a 0)), (1, .int x1), (2, .int x2)] := hl
  refine oh_genQ (fun Q hQ => ?_)
  refine lv_iload_n hx hb dX7_element_0 rfl (lv_at hl 1 rfl) ?_
  refine lv_i2l (v := Int32.toInt64 x1) hx hb dX7_element_1 (by rfl) ?_
  refine lv_lconst (v := 0) hx hb dX7_element_2 (by decide) ?_
  refine lv_ldc2 (v := 7) hx hb hown (htg _ q_1065) dX7_element_3 ?_
  refine tq_S (As := [.long (Int32.toInt64 x1), .long 0, .long 7]) (rest := []) (ws := []) ⟨hx, hb, hml, hown, htg⟩ (c_X7_in l D E G (Int32.toInt64 x1) (0 : Int64) (7 : Int64)) (va_cwS 3 htg (oh_gS q_1066 q_1067 q_73 q_1068) rfl rfl rfl pdX7_in ⟨Nat.le_of_ble_eq_true rfl, Nat.le_of_ble_eq_true rfl⟩) hK va_nil hG hS rfl hl.1 rfl (Nat.le_of_ble_eq_true rfl) dX7_element_6 ⟨Nat.le_of_ble_eq_true rfl, Nat.le_of_ble_eq_true rfl⟩ (fun r_1 hq_2 => ?_)
  refine lv_if_eq (tgt := 51) hx hb dX7_element_9 (by decide) (fun (c_3 : r_1 = 0) => ?_) (fun (c_3 : ¬ (r_1 = 0)) => ?_)
  · have u_4 := hq_2.2.2 c_3
    refine lv_lconst (v := 0) hx hb dX7_element_51 (by decide) ?_
    rw [hQ]
    exact W.lret (v := 0) hx hb hr (fun t ht hW => ⟨0, rfl, trivial, ht⟩) (fun q h => by cases h) dX7_element_52
  · have u_5 := hq_2.2.1 c_3
    refine lv_aload_n hx hb dX7_element_12 rfl (lv_at hl 0 rfl) ?_
    refine va_get (D := D) (ci := 7) (v := .ref (a 1)) (C := RX7) (T := TX7) (N := 29) hx hb htg ig_7 hown hK hP 0 (oh_wg (Nat.lt_of_lt_of_le (by decide) hn) (sM_0 hT)) rfl 0 (by decide) (htg _ q_973) (fun _ h9 => h9) rfl dX7_element_13 ?_
    refine lv_iload_n hx hb dX7_element_16 rfl (lv_at hl 1 rfl) ?_
    have n_6 : vp_in x1 8 := (rg_in (rg_il (rgL_i (rg_il (rnL_leu u_5.2 (rnL_lel u_5.1 (rgL_c (v := 0) (lo := 0) (hi := 0) (by decide)) (rgL_i (rg_any _))) (rgL_c (v := 7) (lo := 7) (hi := 7) (by decide)))))) (by decide))
    refine th_iald hx hb hK hP 1 (Nat.lt_of_lt_of_le (by decide) hn) (sM_1 hT) n_6 dX7_element_17 ?_
    refine lv_iconst (v := 1) hx hb dX7_element_18 (by decide) ?_
    refine lv_icmp_ne (tgt := 51) hx hb dX7_element_19 (by decide) (fun (c_7 : ¬ ((ga (C 1) (x1).toNatClampNeg) = 1)) => ?_) (fun (c_7 : (ga (C 1) (x1).toNatClampNeg) = 1) => ?_)
    · refine lv_lconst (v := 0) hx hb dX7_element_51 (by decide) ?_
      rw [hQ]
      exact W.lret (v := 0) hx hb hr (fun t ht hW => ⟨0, rfl, trivial, ht⟩) (fun q h => by cases h) dX7_element_52
    · refine lv_iload_n hx hb dX7_element_22 rfl (lv_at hl 2 rfl) ?_
      refine lv_i2l (v := Int32.toInt64 x2) hx hb dX7_element_23 (by rfl) ?_
      refine lv_lconst (v := 0) hx hb dX7_element_24 (by decide) ?_
      refine lv_aload_n hx hb dX7_element_25 rfl (lv_at hl 0 rfl) ?_
      refine va_get (D := D) (ci := 7) (v := .ref (a 3)) (C := RX7) (T := TX7) (N := 29) hx hb htg ig_7 hown hK hP 0 (oh_wg (Nat.lt_of_lt_of_le (by decide) hn) (sM_0 hT)) rfl 2 (by decide) (htg _ q_975) (fun _ h9 => h9) rfl dX7_element_26 ?_
      refine lv_iload_n hx hb dX7_element_29 rfl (lv_at hl 1 rfl) ?_
      have n_8 : vp_in x1 8 := (rg_in (rg_il (rgL_i (rg_il (rnL_leu u_5.2 (rnL_lel u_5.1 (rgL_c (v := 0) (lo := 0) (hi := 0) (by decide)) (rgL_i (rg_any _))) (rgL_c (v := 7) (lo := 7) (hi := 7) (by decide)))))) (by decide))
      refine th_iald hx hb hK hP 3 (Nat.lt_of_lt_of_le (by decide) hn) (sM_3 hT) n_8 dX7_element_30 ?_
      refine lv_iconst (v := 1) hx hb dX7_element_31 (by decide) ?_
      refine lv_isub hx hb dX7_element_32 ?_
      refine lv_i2l (v := Int32.toInt64 ((ga (C 3) (x1).toNatClampNeg) - 1)) hx hb dX7_element_33 (by rfl) ?_
      refine tq_S (As := [.long (Int32.toInt64 x2), .long 0, .long (Int32.toInt64 ((ga (C 3) (x1).toNatClampNeg) - 1))]) (rest := []) (ws := []) ⟨hx, hb, hml, hown, htg⟩ (c_X7_in l D E G (Int32.toInt64 x2) (0 : Int64) (Int32.toInt64 ((ga (C 3) (x1).toNatClampNeg) - 1))) (va_cwS 3 htg (oh_gS q_1066 q_1067 q_73 q_1068) rfl rfl rfl pdX7_in ⟨Nat.le_of_ble_eq_true rfl, Nat.le_of_ble_eq_true rfl⟩) hK va_nil hG hS rfl hl.1 rfl (Nat.le_of_ble_eq_true rfl) dX7_element_34 ⟨Nat.le_of_ble_eq_true rfl, Nat.le_of_ble_eq_true rfl⟩ (fun r_9 hq_10 => ?_)
      refine lv_if_eq (tgt := 51) hx hb dX7_element_37 (by decide) (fun (c_11 : r_9 = 0) => ?_) (fun (c_11 : ¬ (r_9 = 0)) => ?_)
      · have u_12 := hq_10.2.2 c_11
        refine lv_lconst (v := 0) hx hb dX7_element_51 (by decide) ?_
        rw [hQ]
        exact W.lret (v := 0) hx hb hr (fun t ht hW => ⟨0, rfl, trivial, ht⟩) (fun q h => by cases h) dX7_element_52
      · have u_13 := hq_10.2.1 c_11
        refine lv_aload_n hx hb dX7_element_40 rfl (lv_at hl 0 rfl) ?_
        refine va_get (D := D) (ci := 7) (v := .ref (a 4)) (C := RX7) (T := TX7) (N := 29) hx hb htg ig_7 hown hK hP 0 (oh_wg (Nat.lt_of_lt_of_le (by decide) hn) (sM_0 hT)) rfl 3 (by decide) (htg _ q_976) (fun _ h9 => h9) rfl dX7_element_41 ?_
        refine lv_iload_n hx hb dX7_element_44 rfl (lv_at hl 1 rfl) ?_
        have n_14 : vp_in x1 8 := (rg_in (rg_il (rgL_i (rg_il (rnL_leu u_5.2 (rnL_lel u_5.1 (rgL_c (v := 0) (lo := 0) (hi := 0) (by decide)) (rgL_i (rg_any _))) (rgL_c (v := 7) (lo := 7) (hi := 7) (by decide)))))) (by decide))
        have b_15 : (x1).toNatClampNeg < 8 := vp_lt n_14
        refine th_aald hx hb hK hP 4 3 (Nat.lt_of_lt_of_le (by decide) hn) (sM_4 hT) rfl n_14 dX7_element_45 ?_
        refine lv_iload_n hx hb dX7_element_46 rfl (lv_at hl 2 rfl) ?_
        have n_16 : vp_in x2 40 := (rg_in (rg_il (rnL_leu u_13.2 (rgL_i (rg_il (rnL_lel u_13.1 (rgL_c (v := 0) (lo := 0) (hi := 0) (by decide)) (rgL_i (rg_any _))))) (rgL_i (rg_sub (lo := (-1)) (hi := 39) (tA_rdc (lo := 0) (hi := 40) (tM_3 hT0) n_8 (Nat.mod_one _) (by decide)) (rg_c (v := 1) (lo := 1) (hi := 1) (by decide)) (by decide))))) (by decide))
        refine th_lald hx hb hK hP (16 + (x1).toNatClampNeg) (lt_blk b_15 hn (by decide)) (hT.brows b_15) n_16 dX7_element_47 ?_
        refine lv_goto (tgt := 52) hx hb dX7_element_48 (by decide) ?_
        rw [hQ]
        exact W.lret (v := gb (C (16 + (x1).toNatClampNeg)) (x2).toNatClampNeg) hx hb hr (fun t ht hW => ⟨gb (C (16 + (x1).toNatClampNeg)) (x2).toNatClampNeg, rfl, trivial, ht⟩) (fun q h => by cases h) dX7_element_52

set_option maxHeartbeats 4000000 in
set_option maxRecDepth 100000 in
theorem c_X7_holds (l : Launch) (D : va_G) (E : Nat → ClassId) (G : Nat → Nat) (a : Nat → Nat) (C : Nat → va_E) (n : Nat) (hn : 74 ≤ n) (hT : TyM a E C) (x1 : Int32) (hR : RelM C) : Met l yX7_holds (oh_w yX7_holds cX7_holds 2 (some .int)) ({ frames := 1, cells := 0, slots := 0, locals := 25 }) (oh_Pp D E G [.ref (a 0), .int x1] (oh_W n a C)) (vp_Si (fun r => True)) 0 0 (fun _ => False) := by
  refine Met.ofW (cc := cX7_holds) (maxL := 2) (ret := (some .int)) (by decide) rfl ?_
  intro p e s m args below meth c s₁ B hml hv
  obtain ⟨rfl, hP, hK, hG⟩ := hv
  have hx := B.exec
  have hb := B.bytes
  have hr := B.returns
  have hts := atoms_spec (ws := (oh_w yX7_holds cX7_holds 2 (some .int))) B.pre
  have htg : ∀ w ∈ oh_t, w.before _ s = true := fun w h => hts w (List.mem_cons_of_mem _ h)
  have hown : s.vm.findClass RX7 = some m.cls := findClass_of_methodNamed B.named
  have hlocks := B.notSynchronized
  have hT0 := hT
  have hS : va_S (fun _ => False) s.heap s.heap [] := va_S.rf
  have hl := lv_entry ([.ref (a 0), .int x1]) (n := 2) (Nat.le_of_ble_eq_true rfl)
  rw [lg_entry_eq]
  generalize (lg_sl ([.ref (a 0), .int x1]) ++ List.replicate (2 - (lg_sl ([.ref (a 0), .int x1])).length) Slot.unset).toArray = ls at hl ⊢
  have hl : lv_has ls 2 [(0, .ref (a 0)), (1, .int x1)] := hl
  refine oh_genQ (fun Q hQ => ?_)
  refine lv_iload_n hx hb dX7_holds_0 rfl (lv_at hl 1 rfl) ?_
  refine lv_i2l (v := Int32.toInt64 x1) hx hb dX7_holds_1 (by rfl) ?_
  refine lv_lconst (v := 0) hx hb dX7_holds_2 (by decide) ?_
  refine lv_ldc2 (v := 7) hx hb hown (htg _ q_1065) dX7_holds_3 ?_
  refine tq_S (As := [.long (Int32.toInt64 x1), .long 0, .long 7]) (rest := []) (ws := []) ⟨hx, hb, hml, hown, htg⟩ (c_X7_in l D E G (Int32.toInt64 x1) (0 : Int64) (7 : Int64)) (va_cwS 3 htg (oh_gS q_1066 q_1067 q_73 q_1068) rfl rfl rfl pdX7_in ⟨Nat.le_of_ble_eq_true rfl, Nat.le_of_ble_eq_true rfl⟩) hK va_nil hG hS rfl hl.1 rfl (Nat.le_of_ble_eq_true rfl) dX7_holds_6 ⟨Nat.le_of_ble_eq_true rfl, Nat.le_of_ble_eq_true rfl⟩ (fun r_1 hq_2 => ?_)
  refine lv_if_eq (tgt := 21) hx hb dX7_holds_9 (by decide) (fun (c_3 : r_1 = 0) => ?_) (fun (c_3 : ¬ (r_1 = 0)) => ?_)
  · have u_4 := hq_2.2.2 c_3
    refine lv_iconst (v := (-1)) hx hb dX7_holds_21 (by decide) ?_
    rw [hQ]
    exact W.iret (v := (-1)) hx hb hr (fun t ht hW => ⟨(-1), rfl, trivial, ht⟩) (fun q h => by cases h) dX7_holds_22
  · have u_5 := hq_2.2.1 c_3
    refine lv_aload_n hx hb dX7_holds_12 rfl (lv_at hl 0 rfl) ?_
    refine va_get (D := D) (ci := 7) (v := .ref (a 1)) (C := RX7) (T := TX7) (N := 29) hx hb htg ig_7 hown hK hP 0 (oh_wg (Nat.lt_of_lt_of_le (by decide) hn) (sM_0 hT)) rfl 0 (by decide) (htg _ q_973) (fun _ h9 => h9) rfl dX7_holds_13 ?_
    refine lv_iload_n hx hb dX7_holds_16 rfl (lv_at hl 1 rfl) ?_
    have n_6 : vp_in x1 8 := (rg_in (rg_il (rgL_i (rg_il (rnL_leu u_5.2 (rnL_lel u_5.1 (rgL_c (v := 0) (lo := 0) (hi := 0) (by decide)) (rgL_i (rg_any _))) (rgL_c (v := 7) (lo := 7) (hi := 7) (by decide)))))) (by decide))
    refine th_iald hx hb hK hP 1 (Nat.lt_of_lt_of_le (by decide) hn) (sM_1 hT) n_6 dX7_holds_17 ?_
    refine lv_if_ne (tgt := 23) hx hb dX7_holds_18 (by decide) (fun (c_7 : ¬ ((ga (C 1) (x1).toNatClampNeg) = 0)) => ?_) (fun (c_7 : (ga (C 1) (x1).toNatClampNeg) = 0) => ?_)
    · refine lv_aload_n hx hb dX7_holds_23 rfl (lv_at hl 0 rfl) ?_
      refine va_get (D := D) (ci := 7) (v := .ref (a 1)) (C := RX7) (T := TX7) (N := 29) hx hb htg ig_7 hown hK hP 0 (oh_wg (Nat.lt_of_lt_of_le (by decide) hn) (sM_0 hT)) rfl 0 (by decide) (htg _ q_973) (fun _ h9 => h9) rfl dX7_holds_24 ?_
      refine lv_iload_n hx hb dX7_holds_27 rfl (lv_at hl 1 rfl) ?_
      have n_8 : vp_in x1 8 := (rg_in (rg_il (rgL_i (rg_il (rnL_leu u_5.2 (rnL_lel u_5.1 (rgL_c (v := 0) (lo := 0) (hi := 0) (by decide)) (rgL_i (rg_any _))) (rgL_c (v := 7) (lo := 7) (hi := 7) (by decide)))))) (by decide))
      refine th_iald hx hb hK hP 1 (Nat.lt_of_lt_of_le (by decide) hn) (sM_1 hT) n_8 dX7_holds_28 ?_
      refine lv_iconst (v := 1) hx hb dX7_holds_29 (by decide) ?_
      refine lv_icmp_ne (tgt := 42) hx hb dX7_holds_30 (by decide) (fun (c_9 : ¬ ((ga (C 1) (x1).toNatClampNeg) = 1)) => ?_) (fun (c_9 : (ga (C 1) (x1).toNatClampNeg) = 1) => ?_)
      · refine lv_bipush (v := 10) hx hb dX7_holds_42 (by decide) ?_
        refine lv_aload_n hx hb dX7_holds_44 rfl (lv_at hl 0 rfl) ?_
        refine va_get (D := D) (ci := 7) (v := .ref (a 6)) (C := RX7) (T := TX7) (N := 29) hx hb htg ig_7 hown hK hP 0 (oh_wg (Nat.lt_of_lt_of_le (by decide) hn) (sM_0 hT)) rfl 5 (by decide) (htg _ q_978) (fun _ h9 => h9) rfl dX7_holds_45 ?_
        refine lv_iload_n hx hb dX7_holds_48 rfl (lv_at hl 1 rfl) ?_
        have n_10 : vp_in x1 8 := (rg_in (rg_il (rgL_i (rg_il (rnL_leu u_5.2 (rnL_lel u_5.1 (rgL_c (v := 0) (lo := 0) (hi := 0) (by decide)) (rgL_i (rg_any _))) (rgL_c (v := 7) (lo := 7) (hi := 7) (by decide)))))) (by decide))
        refine th_iald hx hb hK hP 6 (Nat.lt_of_lt_of_le (by decide) hn) (sM_6 hT) n_10 dX7_holds_49 ?_
        refine lv_iadd hx hb dX7_holds_50 ?_
        rw [hQ]
        exact W.iret (v := 10 + (ga (C 6) (x1).toNatClampNeg)) hx hb hr (fun t ht hW => ⟨10 + (ga (C 6) (x1).toNatClampNeg), rfl, trivial, ht⟩) (fun q h => by cases h) dX7_holds_51
      · refine lv_aload_n hx hb dX7_holds_33 rfl (lv_at hl 0 rfl) ?_
        refine va_get (D := D) (ci := 7) (v := .ref (a 2)) (C := RX7) (T := TX7) (N := 29) hx hb htg ig_7 hown hK hP 0 (oh_wg (Nat.lt_of_lt_of_le (by decide) hn) (sM_0 hT)) rfl 1 (by decide) (htg _ q_974) (fun _ h9 => h9) rfl dX7_holds_34 ?_
        refine lv_iload_n hx hb dX7_holds_37 rfl (lv_at hl 1 rfl) ?_
        have n_11 : vp_in x1 8 := (rg_in (rg_il (rgL_i (rg_il (rnL_leu u_5.2 (rnL_lel u_5.1 (rgL_c (v := 0) (lo := 0) (hi := 0) (by decide)) (rgL_i (rg_any _))) (rgL_c (v := 7) (lo := 7) (hi := 7) (by decide)))))) (by decide))
        refine th_iald hx hb hK hP 2 (Nat.lt_of_lt_of_le (by decide) hn) (sM_2 hT) n_11 dX7_holds_38 ?_
        refine lv_goto (tgt := 51) hx hb dX7_holds_39 (by decide) ?_
        rw [hQ]
        exact W.iret (v := ga (C 2) (x1).toNatClampNeg) hx hb hr (fun t ht hW => ⟨ga (C 2) (x1).toNatClampNeg, rfl, trivial, ht⟩) (fun q h => by cases h) dX7_holds_51
    · refine lv_iconst (v := (-1)) hx hb dX7_holds_21 (by decide) ?_
      rw [hQ]
      exact W.iret (v := (-1)) hx hb hr (fun t ht hW => ⟨(-1), rfl, trivial, ht⟩) (fun q h => by cases h) dX7_holds_22

set_option maxHeartbeats 4000000 in
set_option maxRecDepth 100000 in
theorem c_X7_show (l : Launch) (D : va_G) (E : Nat → ClassId) (G : Nat → Nat) (sz : Nat) (a : Nat → Nat) (C : Nat → va_E) (n : Nat) (hn : 74 ≤ n) (hT : TyM a E C) (x1 : Int32) (x2 : Int32) (hR : RelM C) : Met l yX7_show (oh_w yX7_show cX7_show 3 (some .int)) ({ frames := 2, cells := 0, slots := 0, locals := 46 }) (oh_Pm D E G [.ref (a 0), .int x1, .int x2] (oh_W n a C) sz) (va_Qi (fun r (u : Nat → va_E) => TyM a E u ∧ fr [(1, 2), (6, 7), (8, 9)] [] C u ∧ (RelM u)) (oh_B D (va_A (oh_W n a C) sz) (fun u => oh_W n a u)) (va_A (oh_W n a C) sz)) 0 0 (va_A (oh_W n a C) sz) := by
  refine Met.ofW (cc := cX7_show) (maxL := 3) (ret := (some .int)) (by decide) rfl ?_
  intro p e s m args below meth c s₁ B hml hv
  obtain ⟨rfl, hsz, hP, hK, hD0, hG⟩ := hv
  have hx := B.exec
  have hb := B.bytes
  have hr := B.returns
  have hts := atoms_spec (ws := (oh_w yX7_show cX7_show 3 (some .int))) B.pre
  have htg : ∀ w ∈ oh_t, w.before _ s = true := fun w h => hts w (List.mem_cons_of_mem _ h)
  have hown : s.vm.findClass RX7 = some m.cls := findClass_of_methodNamed B.named
  have hlocks := B.notSynchronized
  have hT0 := hT
  subst hsz
  have hD := hD0.self (sz := s.heap.size)
  generalize hAe : va_A (oh_W n a C) s.heap.size = A at hD hG ⊢
  have hA : ∀ q : Nat, s.heap.size ≤ q → A q := fun q h => by rw [← hAe]; exact Or.inr h
  have hS : va_S A s.heap s.heap [] := va_S.rf
  have hF : fr [(1, 2), (6, 7), (8, 9)] [] C C := fr_rf
  have hl := lv_entry ([.ref (a 0), .int x1, .int x2]) (n := 3) (Nat.le_of_ble_eq_true rfl)
  rw [lg_entry_eq]
  generalize (lg_sl ([.ref (a 0), .int x1, .int x2]) ++ List.replicate (3 - (lg_sl ([.ref (a 0), .int x1, .int x2])).length) Slot.unset).toArray = ls at hl ⊢
  have hl : lv_has ls 3 [(0, .ref (a 0)), (1, .int x1), (2, .int x2)] := hl
  refine oh_genQ (fun Q hQ => ?_)
  refine lv_iload_n hx hb dX7_show_0 rfl (lv_at hl 1 rfl) ?_
  refine lv_i2l (v := Int32.toInt64 x1) hx hb dX7_show_1 (by rfl) ?_
  refine lv_lconst (v := 0) hx hb dX7_show_2 (by decide) ?_
  refine lv_ldc2 (v := 7) hx hb hown (htg _ q_1065) dX7_show_3 ?_
  refine tq_S (As := [.long (Int32.toInt64 x1), .long 0, .long 7]) (rest := []) (ws := []) ⟨hx, hb, hml, hown, htg⟩ (c_X7_in l D E G (Int32.toInt64 x1) (0 : Int64) (7 : Int64)) (va_cwS 3 htg (oh_gS q_1066 q_1067 q_73 q_1068) rfl rfl rfl pdX7_in ⟨Nat.le_of_ble_eq_true rfl, Nat.le_of_ble_eq_true rfl⟩) hK va_nil hG hS rfl hl.1 rfl (Nat.le_of_ble_eq_true rfl) dX7_show_6 ⟨Nat.le_of_ble_eq_true rfl, Nat.le_of_ble_eq_true rfl⟩ (fun r_1 hq_2 => ?_)
  refine lv_if_eq (tgt := 25) hx hb dX7_show_9 (by decide) (fun (c_3 : r_1 = 0) => ?_) (fun (c_3 : ¬ (r_1 = 0)) => ?_)
  · have u_4 := hq_2.2.2 c_3
    refine lv_aload_n hx hb dX7_show_25 rfl (lv_at hl 0 rfl) ?_
    refine lv_bipush (v := (-2)) hx hb dX7_show_26 (by decide) ?_
    refine tm_V (As := [.int (-2)]) (rest := []) ⟨hx, hb, hml, hown, htg⟩ (c_X7_refuse l D E G _ a C n hn hT ((-2) : Int32) (rg_w (rg_c (v := (-2)) (lo := (-2)) (hi := (-2)) (by decide)) (by decide))) (cwV 1 htg (oh_gV q_1071 q_1073 q_29 q_73 q_1074) rfl rfl rfl pdVX7_refuse ⟨Nat.le_of_ble_eq_true rfl, Nat.le_of_ble_eq_true rfl⟩) hK hP hD hG hS hA (va_recv hK hP (ci := 7) (q0 := 0) rfl (oh_wg (Nat.lt_of_lt_of_le (by decide) hn) (sM_0 hT))) rfl hl.1 rfl (Nat.le_of_ble_eq_true rfl) dX7_show_28 ⟨Nat.le_of_ble_eq_true rfl, Nat.le_of_ble_eq_true rfl⟩ (fun r_5 C_6 H locs hq_7 hP hD hS => ?_)
    obtain ⟨hT, f_8, hq_7⟩ := hq_7
    have hF := fr_tr hF f_8 (by decide) (by decide)
    refine W.widen (k := 0) (n := 0) (Nat.le_refl _) (Nat.le_refl _) ?_
    have t_9 := hT
    rw [hQ]
    exact W.iret (v := r_5) hx hb hr (fun t ht hW => ⟨⟨r_5, C_6, rfl, ⟨hT, hF, ⟨hR.1.fr hF (by decide), (RelS.fr hR.2 f_8 (by decide))⟩⟩, ⟨by rw [ht]; exact hP, hD⟩⟩, hS.F ht⟩) hS.2.2 dX7_show_31
  · have u_10 := hq_2.2.1 c_3
    refine lv_iload_n hx hb dX7_show_12 rfl (lv_at hl 2 rfl) ?_
    refine lv_iconst (v := (-1)) hx hb dX7_show_13 (by decide) ?_
    refine lv_icmp_eq (tgt := 32) hx hb dX7_show_14 (by decide) (fun (c_11 : x2 = (-1)) => ?_) (fun (c_11 : ¬ (x2 = (-1))) => ?_)
    · refine lv_aload_n hx hb dX7_show_32 rfl (lv_at hl 0 rfl) ?_
      refine va_get (D := D) (ci := 7) (v := .ref (a 1)) (C := RX7) (T := TX7) (N := 29) hx hb htg ig_7 hown hK hP 0 (oh_wg (Nat.lt_of_lt_of_le (by decide) hn) (sM_0 hT)) rfl 0 (by decide) (htg _ q_973) (fun _ h9 => h9) rfl dX7_show_33 ?_
      refine lv_iload_n hx hb dX7_show_36 rfl (lv_at hl 1 rfl) ?_
      refine lv_iload_n hx hb dX7_show_37 rfl (lv_at hl 2 rfl) ?_
      refine lv_iconst (v := (-1)) hx hb dX7_show_38 (by decide) ?_
      refine lv_icmp_ne (tgt := 46) hx hb dX7_show_39 (by decide) (fun (c_12 : ¬ (x2 = (-1))) => ?_) (fun (c_12 : x2 = (-1)) => ?_)
      · exact (rg_no (rn_nel (l' := 0) c_12 (rn_neu (u' := (-2)) c_12 (rn_eq c_11 (rg_c (v := (-1)) (lo := (-1)) (hi := (-1)) (by decide))) (rg_c (v := (-1)) (lo := (-1)) (hi := (-1)) (by decide)) (by decide)) (rg_c (v := (-1)) (lo := (-1)) (hi := (-1)) (by decide)) (by decide)) (by decide)).elim
      · refine lv_iconst (v := 0) hx hb dX7_show_42 (by decide) ?_
        refine lv_goto (tgt := 47) hx hb dX7_show_43 (by decide) ?_
        have n_13 : vp_in x1 8 := (rg_in (rg_il (rgL_i (rg_il (rnL_leu u_10.2 (rnL_lel u_10.1 (rgL_c (v := 0) (lo := 0) (hi := 0) (by decide)) (rgL_i (rg_any _))) (rgL_c (v := 7) (lo := 7) (hi := 7) (by decide)))))) (by decide))
        refine th_iast (T := TyM a E) (Rl := fr [(1, 2), (6, 7), (8, 9)] [] C) hx hb hK hP hD hS 1 (Nat.lt_of_lt_of_le (by decide) hn) (sM_1 hT) n_13 (hT.up 1 (by decide) (tA_upd (tM_1 hT) (tA_stc (Nat.mod_one _) (rg_c (v := 0) (lo := 0) (hi := 0) (by decide)) (by decide)))) (fr_st hF (by decide) (by decide)) dX7_show_47 (fun C_14 H locs e_15 hT hF hP hD hS => ?_)
        have t_16 := hT
        refine lv_aload_n hx hb dX7_show_48 rfl (lv_at hl 0 rfl) ?_
        refine va_get (D := D) (ci := 7) (v := .ref (a 6)) (C := RX7) (T := TX7) (N := 29) hx hb htg ig_7 hown hK hP 0 (oh_wg (Nat.lt_of_lt_of_le (by decide) hn) (sM_0 hT)) rfl 5 (by decide) (htg _ q_978) (fun _ h9 => h9) rfl dX7_show_49 ?_
        refine lv_iload_n hx hb dX7_show_52 rfl (lv_at hl 1 rfl) ?_
        refine lv_iload_n hx hb dX7_show_53 rfl (lv_at hl 2 rfl) ?_
        have n_17 : vp_in x1 8 := (rg_in (rg_il (rgL_i (rg_il (rnL_leu u_10.2 (rnL_lel u_10.1 (rgL_c (v := 0) (lo := 0) (hi := 0) (by decide)) (rgL_i (rg_any _))) (rgL_c (v := 7) (lo := 7) (hi := 7) (by decide)))))) (by decide))
        refine th_iast (T := TyM a E) (Rl := fr [(1, 2), (6, 7), (8, 9)] [] C) hx hb hK hP hD hS 6 (Nat.lt_of_lt_of_le (by decide) hn) (sM_6 hT) n_17 (hT.up 6 (by decide) (tA_upd (tM_6 hT) (tA_stc (Nat.mod_one _) (rn_eq c_12 (rg_c (v := (-1)) (lo := (-1)) (hi := (-1)) (by decide))) (by decide)))) (fr_st hF (by decide) (by decide)) dX7_show_54 (fun C_18 H locs e_19 hT hF hP hD hS => ?_)
        have t_20 := hT
        refine lv_iconst (v := 1) hx hb dX7_show_55 (by decide) ?_
        rw [hQ]
        exact W.iret (v := 1) hx hb hr (fun t ht hW => ⟨⟨1, C_18, rfl, ⟨hT, hF, ⟨hR.1.fr hF (by decide), oh_relS2 (i := x1) hR.2 (by rw [(th_un e_19 (by decide)), (st_ga e_15)]) (by rw [(st_ga e_19), (th_un e_15 (by decide))]) (fun h8 => absurd h8 (by decide))⟩⟩, ⟨by rw [ht]; exact hP, hD⟩⟩, hS.F ht⟩) hS.2.2 dX7_show_56
    · refine lv_aload_n hx hb dX7_show_17 rfl (lv_at hl 0 rfl) ?_
      refine lv_iload_n hx hb dX7_show_18 rfl (lv_at hl 2 rfl) ?_
      refine tq_V (As := [.int x2]) (rest := []) (ws := (oh_W n a C)) ⟨hx, hb, hml, hown, htg⟩ (c_X7_isBridge l D E G a C n hn hT x2) (cwV 1 htg (oh_gV q_1098 q_1100 q_30 q_73 q_1101) rfl rfl rfl pdVX7_isBridge ⟨Nat.le_of_ble_eq_true rfl, Nat.le_of_ble_eq_true rfl⟩) hK hP hG hS (va_recv hK hP (ci := 7) (q0 := 0) rfl (oh_wg (Nat.lt_of_lt_of_le (by decide) hn) (sM_0 hT))) rfl hl.1 rfl (Nat.le_of_ble_eq_true rfl) dX7_show_19 ⟨Nat.le_of_ble_eq_true rfl, Nat.le_of_ble_eq_true rfl⟩ (fun r_21 hq_22 => ?_)
      refine lv_if_ne (tgt := 32) hx hb dX7_show_22 (by decide) (fun (c_23 : ¬ (r_21 = 0)) => ?_) (fun (c_23 : r_21 = 0) => ?_)
      · have u_24 := hq_22.2 c_23
        refine lv_aload_n hx hb dX7_show_32 rfl (lv_at hl 0 rfl) ?_
        refine va_get (D := D) (ci := 7) (v := .ref (a 1)) (C := RX7) (T := TX7) (N := 29) hx hb htg ig_7 hown hK hP 0 (oh_wg (Nat.lt_of_lt_of_le (by decide) hn) (sM_0 hT)) rfl 0 (by decide) (htg _ q_973) (fun _ h9 => h9) rfl dX7_show_33 ?_
        refine lv_iload_n hx hb dX7_show_36 rfl (lv_at hl 1 rfl) ?_
        refine lv_iload_n hx hb dX7_show_37 rfl (lv_at hl 2 rfl) ?_
        refine lv_iconst (v := (-1)) hx hb dX7_show_38 (by decide) ?_
        refine lv_icmp_ne (tgt := 46) hx hb dX7_show_39 (by decide) (fun (c_25 : ¬ (x2 = (-1))) => ?_) (fun (c_25 : x2 = (-1)) => ?_)
        · refine lv_iconst (v := 2) hx hb dX7_show_46 (by decide) ?_
          have n_26 : vp_in x1 8 := (rg_in (rg_il (rgL_i (rg_il (rnL_leu u_10.2 (rnL_lel u_10.1 (rgL_c (v := 0) (lo := 0) (hi := 0) (by decide)) (rgL_i (rg_any _))) (rgL_c (v := 7) (lo := 7) (hi := 7) (by decide)))))) (by decide))
          refine th_iast (T := TyM a E) (Rl := fr [(1, 2), (6, 7), (8, 9)] [] C) hx hb hK hP hD hS 1 (Nat.lt_of_lt_of_le (by decide) hn) (sM_1 hT) n_26 (hT.up 1 (by decide) (tA_upd (tM_1 hT) (tA_stc (Nat.mod_one _) (rg_c (v := 2) (lo := 2) (hi := 2) (by decide)) (by decide)))) (fr_st hF (by decide) (by decide)) dX7_show_47 (fun C_27 H locs e_28 hT hF hP hD hS => ?_)
          have t_29 := hT
          refine lv_aload_n hx hb dX7_show_48 rfl (lv_at hl 0 rfl) ?_
          refine va_get (D := D) (ci := 7) (v := .ref (a 6)) (C := RX7) (T := TX7) (N := 29) hx hb htg ig_7 hown hK hP 0 (oh_wg (Nat.lt_of_lt_of_le (by decide) hn) (sM_0 hT)) rfl 5 (by decide) (htg _ q_978) (fun _ h9 => h9) rfl dX7_show_49 ?_
          refine lv_iload_n hx hb dX7_show_52 rfl (lv_at hl 1 rfl) ?_
          refine lv_iload_n hx hb dX7_show_53 rfl (lv_at hl 2 rfl) ?_
          have n_30 : vp_in x1 8 := (rg_in (rg_il (rgL_i (rg_il (rnL_leu u_10.2 (rnL_lel u_10.1 (rgL_c (v := 0) (lo := 0) (hi := 0) (by decide)) (rgL_i (rg_any _))) (rgL_c (v := 7) (lo := 7) (hi := 7) (by decide)))))) (by decide))
          refine th_iast (T := TyM a E) (Rl := fr [(1, 2), (6, 7), (8, 9)] [] C) hx hb hK hP hD hS 6 (Nat.lt_of_lt_of_le (by decide) hn) (sM_6 hT) n_30 (hT.up 6 (by decide) (tA_upd (tM_6 hT) (tA_stc (Nat.mod_one _) u_24 (by decide)))) (fr_st hF (by decide) (by decide)) dX7_show_54 (fun C_31 H locs e_32 hT hF hP hD hS => ?_)
          have t_33 := hT
          refine lv_iconst (v := 1) hx hb dX7_show_55 (by decide) ?_
          rw [hQ]
          exact W.iret (v := 1) hx hb hr (fun t ht hW => ⟨⟨1, C_31, rfl, ⟨hT, hF, ⟨hR.1.fr hF (by decide), oh_relS2 (i := x1) hR.2 (by rw [(th_un e_32 (by decide)), (st_ga e_28)]) (by rw [(st_ga e_32), (th_un e_28 (by decide))]) (fun _ => (rg_w (lo := 0) (hi := 15) u_24 (by decide)).1)⟩⟩, ⟨by rw [ht]; exact hP, hD⟩⟩, hS.F ht⟩) hS.2.2 dX7_show_56
        · refine lv_iconst (v := 0) hx hb dX7_show_42 (by decide) ?_
          refine lv_goto (tgt := 47) hx hb dX7_show_43 (by decide) ?_
          have n_34 : vp_in x1 8 := (rg_in (rg_il (rgL_i (rg_il (rnL_leu u_10.2 (rnL_lel u_10.1 (rgL_c (v := 0) (lo := 0) (hi := 0) (by decide)) (rgL_i (rg_any _))) (rgL_c (v := 7) (lo := 7) (hi := 7) (by decide)))))) (by decide))
          refine th_iast (T := TyM a E) (Rl := fr [(1, 2), (6, 7), (8, 9)] [] C) hx hb hK hP hD hS 1 (Nat.lt_of_lt_of_le (by decide) hn) (sM_1 hT) n_34 (hT.up 1 (by decide) (tA_upd (tM_1 hT) (tA_stc (Nat.mod_one _) (rg_c (v := 0) (lo := 0) (hi := 0) (by decide)) (by decide)))) (fr_st hF (by decide) (by decide)) dX7_show_47 (fun C_35 H locs e_36 hT hF hP hD hS => ?_)
          have t_37 := hT
          refine lv_aload_n hx hb dX7_show_48 rfl (lv_at hl 0 rfl) ?_
          refine va_get (D := D) (ci := 7) (v := .ref (a 6)) (C := RX7) (T := TX7) (N := 29) hx hb htg ig_7 hown hK hP 0 (oh_wg (Nat.lt_of_lt_of_le (by decide) hn) (sM_0 hT)) rfl 5 (by decide) (htg _ q_978) (fun _ h9 => h9) rfl dX7_show_49 ?_
          refine lv_iload_n hx hb dX7_show_52 rfl (lv_at hl 1 rfl) ?_
          refine lv_iload_n hx hb dX7_show_53 rfl (lv_at hl 2 rfl) ?_
          have n_38 : vp_in x1 8 := (rg_in (rg_il (rgL_i (rg_il (rnL_leu u_10.2 (rnL_lel u_10.1 (rgL_c (v := 0) (lo := 0) (hi := 0) (by decide)) (rgL_i (rg_any _))) (rgL_c (v := 7) (lo := 7) (hi := 7) (by decide)))))) (by decide))
          refine th_iast (T := TyM a E) (Rl := fr [(1, 2), (6, 7), (8, 9)] [] C) hx hb hK hP hD hS 6 (Nat.lt_of_lt_of_le (by decide) hn) (sM_6 hT) n_38 (hT.up 6 (by decide) (tA_upd (tM_6 hT) (tA_stc (Nat.mod_one _) u_24 (by decide)))) (fr_st hF (by decide) (by decide)) dX7_show_54 (fun C_39 H locs e_40 hT hF hP hD hS => ?_)
          have t_41 := hT
          refine lv_iconst (v := 1) hx hb dX7_show_55 (by decide) ?_
          rw [hQ]
          exact W.iret (v := 1) hx hb hr (fun t ht hW => ⟨⟨1, C_39, rfl, ⟨hT, hF, ⟨hR.1.fr hF (by decide), oh_relS2 (i := x1) hR.2 (by rw [(th_un e_40 (by decide)), (st_ga e_36)]) (by rw [(st_ga e_40), (th_un e_36 (by decide))]) (fun _ => (rg_w (lo := 0) (hi := 15) u_24 (by decide)).1)⟩⟩, ⟨by rw [ht]; exact hP, hD⟩⟩, hS.F ht⟩) hS.2.2 dX7_show_56
      · refine lv_aload_n hx hb dX7_show_25 rfl (lv_at hl 0 rfl) ?_
        refine lv_bipush (v := (-2)) hx hb dX7_show_26 (by decide) ?_
        refine tm_V (As := [.int (-2)]) (rest := []) ⟨hx, hb, hml, hown, htg⟩ (c_X7_refuse l D E G _ a C n hn hT ((-2) : Int32) (rg_w (rg_c (v := (-2)) (lo := (-2)) (hi := (-2)) (by decide)) (by decide))) (cwV 1 htg (oh_gV q_1071 q_1073 q_29 q_73 q_1074) rfl rfl rfl pdVX7_refuse ⟨Nat.le_of_ble_eq_true rfl, Nat.le_of_ble_eq_true rfl⟩) hK hP hD hG hS hA (va_recv hK hP (ci := 7) (q0 := 0) rfl (oh_wg (Nat.lt_of_lt_of_le (by decide) hn) (sM_0 hT))) rfl hl.1 rfl (Nat.le_of_ble_eq_true rfl) dX7_show_28 ⟨Nat.le_of_ble_eq_true rfl, Nat.le_of_ble_eq_true rfl⟩ (fun r_42 C_43 H locs hq_44 hP hD hS => ?_)
        obtain ⟨hT, f_45, hq_44⟩ := hq_44
        have hF := fr_tr hF f_45 (by decide) (by decide)
        refine W.widen (k := 0) (n := 0) (Nat.le_refl _) (Nat.le_refl _) ?_
        have t_46 := hT
        rw [hQ]
        exact W.iret (v := r_42) hx hb hr (fun t ht hW => ⟨⟨r_42, C_43, rfl, ⟨hT, hF, ⟨hR.1.fr hF (by decide), (RelS.fr hR.2 f_45 (by decide))⟩⟩, ⟨by rw [ht]; exact hP, hD⟩⟩, hS.F ht⟩) hS.2.2 dX7_show_31

set_option maxHeartbeats 4000000 in
set_option maxRecDepth 100000 in
theorem c_X7_says (l : Launch) (D : va_G) (E : Nat → ClassId) (G : Nat → Nat) (sz : Nat) (a : Nat → Nat) (C : Nat → va_E) (n : Nat) (hn : 74 ≤ n) (hT : TyM a E C) (x1 : Int32) (x2 : Int32) (hR : RelM C) : Met l yX7_says (oh_w yX7_says cX7_says 4 (some .int)) ({ frames := 2, cells := 0, slots := 0, locals := 45 }) (oh_Pm D E G [.ref (a 0), .int x1, .int x2] (oh_W n a C) sz) (va_Qi (fun r (u : Nat → va_E) => TyM a E u ∧ fr [(8, 9)] [] C u ∧ (RelM u)) (oh_B D (va_A (oh_W n a C) sz) (fun u => oh_W n a u)) (va_A (oh_W n a C) sz)) 0 0 (va_A (oh_W n a C) sz) := by
  refine Met.ofW (cc := cX7_says) (maxL := 4) (ret := (some .int)) (by decide) rfl ?_
  intro p e s m args below meth c s₁ B hml hv
  obtain ⟨rfl, hsz, hP, hK, hD0, hG⟩ := hv
  have hx := B.exec
  have hb := B.bytes
  have hr := B.returns
  have hts := atoms_spec (ws := (oh_w yX7_says cX7_says 4 (some .int))) B.pre
  have htg : ∀ w ∈ oh_t, w.before _ s = true := fun w h => hts w (List.mem_cons_of_mem _ h)
  have hown : s.vm.findClass RX7 = some m.cls := findClass_of_methodNamed B.named
  have hlocks := B.notSynchronized
  have hT0 := hT
  subst hsz
  have hD := hD0.self (sz := s.heap.size)
  generalize hAe : va_A (oh_W n a C) s.heap.size = A at hD hG ⊢
  have hA : ∀ q : Nat, s.heap.size ≤ q → A q := fun q h => by rw [← hAe]; exact Or.inr h
  have hS : va_S A s.heap s.heap [] := va_S.rf
  have hF : fr [(8, 9)] [] C C := fr_rf
  have hl := lv_entry ([.ref (a 0), .int x1, .int x2]) (n := 4) (Nat.le_of_ble_eq_true rfl)
  rw [lg_entry_eq]
  generalize (lg_sl ([.ref (a 0), .int x1, .int x2]) ++ List.replicate (4 - (lg_sl ([.ref (a 0), .int x1, .int x2])).length) Slot.unset).toArray = ls at hl ⊢
  have hl : lv_has ls 4 [(0, .ref (a 0)), (1, .int x1), (2, .int x2)] := hl
  refine oh_genQ (fun Q hQ => ?_)
  refine lv_iload_n hx hb dX7_says_0 rfl (lv_at hl 1 rfl) ?_
  refine lv_i2l (v := Int32.toInt64 x1) hx hb dX7_says_1 (by rfl) ?_
  refine lv_lconst (v := 0) hx hb dX7_says_2 (by decide) ?_
  refine lv_ldc2 (v := 7) hx hb hown (htg _ q_1065) dX7_says_3 ?_
  refine tq_S (As := [.long (Int32.toInt64 x1), .long 0, .long 7]) (rest := []) (ws := []) ⟨hx, hb, hml, hown, htg⟩ (c_X7_in l D E G (Int32.toInt64 x1) (0 : Int64) (7 : Int64)) (va_cwS 3 htg (oh_gS q_1066 q_1067 q_73 q_1068) rfl rfl rfl pdX7_in ⟨Nat.le_of_ble_eq_true rfl, Nat.le_of_ble_eq_true rfl⟩) hK va_nil hG hS rfl hl.1 rfl (Nat.le_of_ble_eq_true rfl) dX7_says_6 ⟨Nat.le_of_ble_eq_true rfl, Nat.le_of_ble_eq_true rfl⟩ (fun r_1 hq_2 => ?_)
  refine lv_if_eq (tgt := 24) hx hb dX7_says_9 (by decide) (fun (c_3 : r_1 = 0) => ?_) (fun (c_3 : ¬ (r_1 = 0)) => ?_)
  · have u_4 := hq_2.2.2 c_3
    refine lv_aload_n hx hb dX7_says_24 rfl (lv_at hl 0 rfl) ?_
    refine lv_bipush (v := (-2)) hx hb dX7_says_25 (by decide) ?_
    refine tm_V (As := [.int (-2)]) (rest := []) ⟨hx, hb, hml, hown, htg⟩ (c_X7_refuse l D E G _ a C n hn hT ((-2) : Int32) (rg_w (rg_c (v := (-2)) (lo := (-2)) (hi := (-2)) (by decide)) (by decide))) (cwV 1 htg (oh_gV q_1071 q_1073 q_29 q_73 q_1074) rfl rfl rfl pdVX7_refuse ⟨Nat.le_of_ble_eq_true rfl, Nat.le_of_ble_eq_true rfl⟩) hK hP hD hG hS hA (va_recv hK hP (ci := 7) (q0 := 0) rfl (oh_wg (Nat.lt_of_lt_of_le (by decide) hn) (sM_0 hT))) rfl hl.1 rfl (Nat.le_of_ble_eq_true rfl) dX7_says_27 ⟨Nat.le_of_ble_eq_true rfl, Nat.le_of_ble_eq_true rfl⟩ (fun r_5 C_6 H locs hq_7 hP hD hS => ?_)
    obtain ⟨hT, f_8, hq_7⟩ := hq_7
    have hF := fr_tr hF f_8 (by decide) (by decide)
    refine W.widen (k := 0) (n := 0) (Nat.le_refl _) (Nat.le_refl _) ?_
    have t_9 := hT
    rw [hQ]
    exact W.iret (v := r_5) hx hb hr (fun t ht hW => ⟨⟨r_5, C_6, rfl, ⟨hT, hF, ⟨hR.1.fr hF (by decide), hR.2.fr hF (by decide)⟩⟩, ⟨by rw [ht]; exact hP, hD⟩⟩, hS.F ht⟩) hS.2.2 dX7_says_30
  · have u_10 := hq_2.2.1 c_3
    refine lv_iload_n hx hb dX7_says_12 rfl (lv_at hl 2 rfl) ?_
    refine lv_i2l (v := Int32.toInt64 x2) hx hb dX7_says_13 (by rfl) ?_
    refine lv_lconst (v := 0) hx hb dX7_says_14 (by decide) ?_
    refine lv_ldc2 (v := 5) hx hb hown (htg _ q_1106) dX7_says_15 ?_
    refine tq_S (As := [.long (Int32.toInt64 x2), .long 0, .long 5]) (rest := []) (ws := []) ⟨hx, hb, hml, hown, htg⟩ (c_X7_in l D E G (Int32.toInt64 x2) (0 : Int64) (5 : Int64)) (va_cwS 3 htg (oh_gS q_1066 q_1067 q_73 q_1068) rfl rfl rfl pdX7_in ⟨Nat.le_of_ble_eq_true rfl, Nat.le_of_ble_eq_true rfl⟩) hK va_nil hG hS rfl hl.1 rfl (Nat.le_of_ble_eq_true rfl) dX7_says_18 ⟨Nat.le_of_ble_eq_true rfl, Nat.le_of_ble_eq_true rfl⟩ (fun r_11 hq_12 => ?_)
    refine lv_if_ne (tgt := 31) hx hb dX7_says_21 (by decide) (fun (c_13 : ¬ (r_11 = 0)) => ?_) (fun (c_13 : r_11 = 0) => ?_)
    · have u_14 := hq_12.2.1 c_13
      refine lv_aload_n hx hb dX7_says_31 rfl (lv_at hl 0 rfl) ?_
      refine va_get (D := D) (ci := 7) (v := .ref (a 1)) (C := RX7) (T := TX7) (N := 29) hx hb htg ig_7 hown hK hP 0 (oh_wg (Nat.lt_of_lt_of_le (by decide) hn) (sM_0 hT)) rfl 0 (by decide) (htg _ q_973) (fun _ h9 => h9) rfl dX7_says_32 ?_
      refine lv_iload_n hx hb dX7_says_35 rfl (lv_at hl 1 rfl) ?_
      have n_15 : vp_in x1 8 := (rg_in (rg_il (rgL_i (rg_il (rnL_leu u_10.2 (rnL_lel u_10.1 (rgL_c (v := 0) (lo := 0) (hi := 0) (by decide)) (rgL_i (rg_any _))) (rgL_c (v := 7) (lo := 7) (hi := 7) (by decide)))))) (by decide))
      refine th_iald hx hb hK hP 1 (Nat.lt_of_lt_of_le (by decide) hn) (sM_1 hT) n_15 dX7_says_36 ?_
      refine lv_iconst (v := 1) hx hb dX7_says_37 (by decide) ?_
      refine lv_icmp_eq (tgt := 71) hx hb dX7_says_38 (by decide) (fun (c_16 : (ga (C 1) (x1).toNatClampNeg) = 1) => ?_) (fun (c_16 : ¬ ((ga (C 1) (x1).toNatClampNeg) = 1)) => ?_)
      · refine lv_aload_n hx hb dX7_says_71 rfl (lv_at hl 0 rfl) ?_
        refine lv_bipush (v := (-3)) hx hb dX7_says_72 (by decide) ?_
        refine tm_V (As := [.int (-3)]) (rest := []) ⟨hx, hb, hml, hown, htg⟩ (c_X7_refuse l D E G _ a C n hn hT ((-3) : Int32) (rg_w (rg_c (v := (-3)) (lo := (-3)) (hi := (-3)) (by decide)) (by decide))) (cwV 1 htg (oh_gV q_1071 q_1073 q_29 q_73 q_1074) rfl rfl rfl pdVX7_refuse ⟨Nat.le_of_ble_eq_true rfl, Nat.le_of_ble_eq_true rfl⟩) hK hP hD hG hS hA (va_recv hK hP (ci := 7) (q0 := 0) rfl (oh_wg (Nat.lt_of_lt_of_le (by decide) hn) (sM_0 hT))) rfl hl.1 rfl (Nat.le_of_ble_eq_true rfl) dX7_says_74 ⟨Nat.le_of_ble_eq_true rfl, Nat.le_of_ble_eq_true rfl⟩ (fun r_17 C_18 H locs hq_19 hP hD hS => ?_)
        obtain ⟨hT, f_20, hq_19⟩ := hq_19
        have hF := fr_tr hF f_20 (by decide) (by decide)
        refine W.widen (k := 0) (n := 0) (Nat.le_refl _) (Nat.le_refl _) ?_
        have t_21 := hT
        rw [hQ]
        exact W.iret (v := r_17) hx hb hr (fun t ht hW => ⟨⟨r_17, C_18, rfl, ⟨hT, hF, ⟨hR.1.fr hF (by decide), hR.2.fr hF (by decide)⟩⟩, ⟨by rw [ht]; exact hP, hD⟩⟩, hS.F ht⟩) hS.2.2 dX7_says_77
      · refine lv_aload_n hx hb dX7_says_41 rfl (lv_at hl 0 rfl) ?_
        refine va_get (D := D) (ci := 7) (v := .ref (a 1)) (C := RX7) (T := TX7) (N := 29) hx hb htg ig_7 hown hK hP 0 (oh_wg (Nat.lt_of_lt_of_le (by decide) hn) (sM_0 hT)) rfl 0 (by decide) (htg _ q_973) (fun _ h9 => h9) rfl dX7_says_42 ?_
        refine lv_iload_n hx hb dX7_says_45 rfl (lv_at hl 1 rfl) ?_
        have n_22 : vp_in x1 8 := (rg_in (rg_il (rgL_i (rg_il (rnL_leu u_10.2 (rnL_lel u_10.1 (rgL_c (v := 0) (lo := 0) (hi := 0) (by decide)) (rgL_i (rg_any _))) (rgL_c (v := 7) (lo := 7) (hi := 7) (by decide)))))) (by decide))
        refine th_iald hx hb hK hP 1 (Nat.lt_of_lt_of_le (by decide) hn) (sM_1 hT) n_22 dX7_says_46 ?_
        refine lv_iconst (v := 2) hx hb dX7_says_47 (by decide) ?_
        refine lv_icmp_ne (tgt := 78) hx hb dX7_says_48 (by decide) (fun (c_23 : ¬ ((ga (C 1) (x1).toNatClampNeg) = 2)) => ?_) (fun (c_23 : (ga (C 1) (x1).toNatClampNeg) = 2) => ?_)
        · refine lv_aload_n hx hb dX7_says_78 rfl (lv_at hl 0 rfl) ?_
          refine va_get (D := D) (ci := 7) (v := .ref (a 1)) (C := RX7) (T := TX7) (N := 29) hx hb htg ig_7 hown hK hP 0 (oh_wg (Nat.lt_of_lt_of_le (by decide) hn) (sM_0 hT)) rfl 0 (by decide) (htg _ q_973) (fun _ h9 => h9) rfl dX7_says_79 ?_
          refine lv_iload_n hx hb dX7_says_82 rfl (lv_at hl 1 rfl) ?_
          have n_24 : vp_in x1 8 := (rg_in (rg_il (rgL_i (rg_il (rnL_leu u_10.2 (rnL_lel u_10.1 (rgL_c (v := 0) (lo := 0) (hi := 0) (by decide)) (rgL_i (rg_any _))) (rgL_c (v := 7) (lo := 7) (hi := 7) (by decide)))))) (by decide))
          refine th_iald hx hb hK hP 1 (Nat.lt_of_lt_of_le (by decide) hn) (sM_1 hT) n_24 dX7_says_83 ?_
          refine lv_if_ne (tgt := 94) hx hb dX7_says_84 (by decide) (fun (c_25 : ¬ ((ga (C 1) (x1).toNatClampNeg) = 0)) => ?_) (fun (c_25 : (ga (C 1) (x1).toNatClampNeg) = 0) => ?_)
          · exact (rg_no (rn_nel (l' := 3) c_23 (rn_nel (l' := 2) c_16 (rn_neu (u' := (-1)) c_25 (rn_neu (u' := 0) c_16 (rn_nel (l' := 1) c_25 (rn_neu (u' := 1) c_23 (tA_rdc (lo := 0) (hi := 2) (tM_1 hT0) n_24 (Nat.mod_one _) (by decide)) (rg_c (v := 2) (lo := 2) (hi := 2) (by decide)) (by decide)) (rg_c (v := 0) (lo := 0) (hi := 0) (by decide)) (by decide)) (rg_c (v := 1) (lo := 1) (hi := 1) (by decide)) (by decide)) (rg_c (v := 0) (lo := 0) (hi := 0) (by decide)) (by decide)) (rg_c (v := 1) (lo := 1) (hi := 1) (by decide)) (by decide)) (rg_c (v := 2) (lo := 2) (hi := 2) (by decide)) (by decide)) (by decide)).elim
          · refine lv_aload_n hx hb dX7_says_87 rfl (lv_at hl 0 rfl) ?_
            refine lv_bipush (v := (-4)) hx hb dX7_says_88 (by decide) ?_
            refine tm_V (As := [.int (-4)]) (rest := []) ⟨hx, hb, hml, hown, htg⟩ (c_X7_refuse l D E G _ a C n hn hT ((-4) : Int32) (rg_w (rg_c (v := (-4)) (lo := (-4)) (hi := (-4)) (by decide)) (by decide))) (cwV 1 htg (oh_gV q_1071 q_1073 q_29 q_73 q_1074) rfl rfl rfl pdVX7_refuse ⟨Nat.le_of_ble_eq_true rfl, Nat.le_of_ble_eq_true rfl⟩) hK hP hD hG hS hA (va_recv hK hP (ci := 7) (q0 := 0) rfl (oh_wg (Nat.lt_of_lt_of_le (by decide) hn) (sM_0 hT))) rfl hl.1 rfl (Nat.le_of_ble_eq_true rfl) dX7_says_90 ⟨Nat.le_of_ble_eq_true rfl, Nat.le_of_ble_eq_true rfl⟩ (fun r_26 C_27 H locs hq_28 hP hD hS => ?_)
            obtain ⟨hT, f_29, hq_28⟩ := hq_28
            have hF := fr_tr hF f_29 (by decide) (by decide)
            refine W.widen (k := 0) (n := 0) (Nat.le_refl _) (Nat.le_refl _) ?_
            have t_30 := hT
            rw [hQ]
            exact W.iret (v := r_26) hx hb hr (fun t ht hW => ⟨⟨r_26, C_27, rfl, ⟨hT, hF, ⟨hR.1.fr hF (by decide), hR.2.fr hF (by decide)⟩⟩, ⟨by rw [ht]; exact hP, hD⟩⟩, hS.F ht⟩) hS.2.2 dX7_says_93
        · refine lv_aload_n hx hb dX7_says_51 rfl (lv_at hl 0 rfl) ?_
          refine va_get (D := D) (ci := 7) (v := .ref (a 10)) (C := RX7) (T := TX7) (N := 29) hx hb htg ig_7 hown hK hP 0 (oh_wg (Nat.lt_of_lt_of_le (by decide) hn) (sM_0 hT)) rfl 12 (by decide) (htg _ q_985) (fun _ h9 => h9) rfl dX7_says_52 ?_
          refine lv_aload_n hx hb dX7_says_55 rfl (lv_at hl 0 rfl) ?_
          refine va_get (D := D) (ci := 7) (v := .ref (a 6)) (C := RX7) (T := TX7) (N := 29) hx hb htg ig_7 hown hK hP 0 (oh_wg (Nat.lt_of_lt_of_le (by decide) hn) (sM_0 hT)) rfl 5 (by decide) (htg _ q_978) (fun _ h9 => h9) rfl dX7_says_56 ?_
          refine lv_iload_n hx hb dX7_says_59 rfl (lv_at hl 1 rfl) ?_
          have n_31 : vp_in x1 8 := (rg_in (rg_il (rgL_i (rg_il (rnL_leu u_10.2 (rnL_lel u_10.1 (rgL_c (v := 0) (lo := 0) (hi := 0) (by decide)) (rgL_i (rg_any _))) (rgL_c (v := 7) (lo := 7) (hi := 7) (by decide)))))) (by decide))
          refine th_iald hx hb hK hP 6 (Nat.lt_of_lt_of_le (by decide) hn) (sM_6 hT) n_31 dX7_says_60 ?_
          have n_32 : vp_in (ga (C 6) (x1).toNatClampNeg) 16 := (rg_in (oh_shown hT0 hR (rg_w (rg_il (rgL_i (rg_il (rnL_leu u_10.2 (rnL_lel u_10.1 (rgL_c (v := 0) (lo := 0) (hi := 0) (by decide)) (rgL_i (rg_any _))) (rgL_c (v := 7) (lo := 7) (hi := 7) (by decide)))))) (by decide)) (rg_in (rg_il (rgL_i (rg_il (rnL_leu u_10.2 (rnL_lel u_10.1 (rgL_c (v := 0) (lo := 0) (hi := 0) (by decide)) (rgL_i (rg_any _))) (rgL_c (v := 7) (lo := 7) (hi := 7) (by decide)))))) (by decide)) c_23) (by decide))
          have b_33 : (ga (C 6) (x1).toNatClampNeg).toNatClampNeg < 16 := vp_lt n_32
          refine th_aald hx hb hK hP 10 2 (Nat.lt_of_lt_of_le (by decide) hn) (sM_10 hT) rfl n_32 dX7_says_61 ?_
          refine lv_iconst (v := 1) hx hb dX7_says_62 (by decide) ?_
          refine th_iald hx hb hK hP (48 + (ga (C 6) (x1).toNatClampNeg).toNatClampNeg) (lt_blk b_33 hn (by decide)) (hT.bbridge b_33).1 (rg_in (rg_c (v := 1) (lo := 1) (hi := 1) (by decide)) (by decide)) dX7_says_63 ?_
          refine lv_iload_n hx hb dX7_says_64 rfl (lv_at hl 2 rfl) ?_
          refine tq_S (As := [.int (ga (C (48 + (ga (C 6) (x1).toNatClampNeg).toNatClampNeg)) ((1 : Int32)).toNatClampNeg), .int x2]) (rest := []) (ws := []) ⟨hx, hb, hml, hown, htg⟩ (c_X7_isUnder l D E G (ga (C (48 + (ga (C 6) (x1).toNatClampNeg).toNatClampNeg)) ((1 : Int32)).toNatClampNeg) x2) (va_cwS 2 htg (oh_gS q_1107 q_1108 q_73 q_1109) rfl rfl rfl pdX7_isUnder ⟨Nat.le_of_ble_eq_true rfl, Nat.le_of_ble_eq_true rfl⟩) hK va_nil hG hS rfl hl.1 rfl (Nat.le_of_ble_eq_true rfl) dX7_says_65 ⟨Nat.le_of_ble_eq_true rfl, Nat.le_of_ble_eq_true rfl⟩ (fun r_34 hq_35 => ?_)
          refine lv_if_ne (tgt := 78) hx hb dX7_says_68 (by decide) (fun (c_36 : ¬ (r_34 = 0)) => ?_) (fun (c_36 : r_34 = 0) => ?_)
          · refine lv_aload_n hx hb dX7_says_78 rfl (lv_at hl 0 rfl) ?_
            refine va_get (D := D) (ci := 7) (v := .ref (a 1)) (C := RX7) (T := TX7) (N := 29) hx hb htg ig_7 hown hK hP 0 (oh_wg (Nat.lt_of_lt_of_le (by decide) hn) (sM_0 hT)) rfl 0 (by decide) (htg _ q_973) (fun _ h9 => h9) rfl dX7_says_79 ?_
            refine lv_iload_n hx hb dX7_says_82 rfl (lv_at hl 1 rfl) ?_
            have n_37 : vp_in x1 8 := (rg_in (rg_il (rgL_i (rg_il (rnL_leu u_10.2 (rnL_lel u_10.1 (rgL_c (v := 0) (lo := 0) (hi := 0) (by decide)) (rgL_i (rg_any _))) (rgL_c (v := 7) (lo := 7) (hi := 7) (by decide)))))) (by decide))
            refine th_iald hx hb hK hP 1 (Nat.lt_of_lt_of_le (by decide) hn) (sM_1 hT) n_37 dX7_says_83 ?_
            refine lv_if_ne (tgt := 94) hx hb dX7_says_84 (by decide) (fun (c_38 : ¬ ((ga (C 1) (x1).toNatClampNeg) = 0)) => ?_) (fun (c_38 : (ga (C 1) (x1).toNatClampNeg) = 0) => ?_)
            · refine lv_aload_n hx hb dX7_says_94 rfl (lv_at hl 0 rfl) ?_
              refine va_get (D := D) (ci := 7) (v := .ref (a 6)) (C := RX7) (T := TX7) (N := 29) hx hb htg ig_7 hown hK hP 0 (oh_wg (Nat.lt_of_lt_of_le (by decide) hn) (sM_0 hT)) rfl 5 (by decide) (htg _ q_978) (fun _ h9 => h9) rfl dX7_says_95 ?_
              refine lv_iload_n hx hb dX7_says_98 rfl (lv_at hl 1 rfl) ?_
              have n_39 : vp_in x1 8 := (rg_in (rg_il (rgL_i (rg_il (rnL_leu u_10.2 (rnL_lel u_10.1 (rgL_c (v := 0) (lo := 0) (hi := 0) (by decide)) (rgL_i (rg_any _))) (rgL_c (v := 7) (lo := 7) (hi := 7) (by decide)))))) (by decide))
              refine th_iald hx hb hK hP 6 (Nat.lt_of_lt_of_le (by decide) hn) (sM_6 hT) n_39 dX7_says_99 ?_
              refine lv_istore_n (lv' := [(3, .int (ga (C 6) (x1).toNatClampNeg)), (0, .ref (a 0)), (1, .int x1), (2, .int x2)]) hx hb dX7_says_100 rfl hl (by decide) rfl (fun ls hl => ?_)
              refine lv_iload_n hx hb dX7_says_101 rfl (lv_at hl 3 rfl) ?_
              by_cases c_40 : x2 = 0
              · refine lv_tableIn (off := 34) (tgt := 136) hx hb dX7_says_102 (by rw [c_40]; decide) (by rw [c_40]; decide) (by rw [c_40]; decide) (by decide) ?_
                refine lv_aload_n hx hb dX7_says_136 rfl (lv_at hl 1 rfl) ?_
                refine va_get (D := D) (ci := 7) (v := .ref (a 10)) (C := RX7) (T := TX7) (N := 29) hx hb htg ig_7 hown hK hP 0 (oh_wg (Nat.lt_of_lt_of_le (by decide) hn) (sM_0 hT)) rfl 12 (by decide) (htg _ q_985) (fun _ h9 => h9) rfl dX7_says_137 ?_
                refine lv_iload_n hx hb dX7_says_140 rfl (lv_at hl 0 rfl) ?_
                have n_41 : vp_in (ga (C 6) (x1).toNatClampNeg) 16 := (rg_in (oh_shown hT0 hR (rg_w (rg_il (rgL_i (rg_il (rnL_leu u_10.2 (rnL_lel u_10.1 (rgL_c (v := 0) (lo := 0) (hi := 0) (by decide)) (rgL_i (rg_any _))) (rgL_c (v := 7) (lo := 7) (hi := 7) (by decide)))))) (by decide)) (rg_in (rg_il (rgL_i (rg_il (rnL_leu u_10.2 (rnL_lel u_10.1 (rgL_c (v := 0) (lo := 0) (hi := 0) (by decide)) (rgL_i (rg_any _))) (rgL_c (v := 7) (lo := 7) (hi := 7) (by decide)))))) (by decide)) c_23) (by decide))
                have b_42 : (ga (C 6) (x1).toNatClampNeg).toNatClampNeg < 16 := vp_lt n_41
                refine th_aald hx hb hK hP 10 2 (Nat.lt_of_lt_of_le (by decide) hn) (sM_10 hT) rfl n_41 dX7_says_141 ?_
                refine lv_iconst (v := 0) hx hb dX7_says_142 (by decide) ?_
                refine th_iald hx hb hK hP (48 + (ga (C 6) (x1).toNatClampNeg).toNatClampNeg) (lt_blk b_42 hn (by decide)) (hT.bbridge b_42).1 (rg_in (rg_c (v := 0) (lo := 0) (hi := 0) (by decide)) (by decide)) dX7_says_143 ?_
                rw [hQ]
                exact W.iret (v := ga (C (48 + (ga (C 6) (x1).toNatClampNeg).toNatClampNeg)) ((0 : Int32)).toNatClampNeg) hx hb hr (fun t ht hW => ⟨⟨ga (C (48 + (ga (C 6) (x1).toNatClampNeg).toNatClampNeg)) ((0 : Int32)).toNatClampNeg, C, rfl, ⟨hT, hF, hR⟩, ⟨by rw [ht]; exact hP, hD⟩⟩, hS.F ht⟩) hS.2.2 dX7_says_144
              · by_cases c_43 : x2 = 1
                · refine lv_tableIn (off := 43) (tgt := 145) hx hb dX7_says_102 (by rw [c_43]; decide) (by rw [c_43]; decide) (by rw [c_43]; decide) (by decide) ?_
                  refine lv_aload_n hx hb dX7_says_145 rfl (lv_at hl 1 rfl) ?_
                  refine lv_iload_n hx hb dX7_says_146 rfl (lv_at hl 0 rfl) ?_
                  refine tq_V (As := [.int (ga (C 6) (x1).toNatClampNeg)]) (rest := []) (ws := (oh_W n a C)) ⟨hx, hb, hml, hown, htg⟩ (c_X7_axleOf l D E G a C n hn hT (ga (C 6) (x1).toNatClampNeg) (rg_w (oh_shown hT0 hR (rg_w (rg_il (rgL_i (rg_il (rnL_leu u_10.2 (rnL_lel u_10.1 (rgL_c (v := 0) (lo := 0) (hi := 0) (by decide)) (rgL_i (rg_any _))) (rgL_c (v := 7) (lo := 7) (hi := 7) (by decide)))))) (by decide)) (rg_in (rg_il (rgL_i (rg_il (rnL_leu u_10.2 (rnL_lel u_10.1 (rgL_c (v := 0) (lo := 0) (hi := 0) (by decide)) (rgL_i (rg_any _))) (rgL_c (v := 7) (lo := 7) (hi := 7) (by decide)))))) (by decide)) c_23) (by decide))) (cwV 1 htg (oh_gV q_1110 q_1112 q_31 q_73 q_1113) rfl rfl rfl pdVX7_axleOf ⟨Nat.le_of_ble_eq_true rfl, Nat.le_of_ble_eq_true rfl⟩) hK hP hG hS (va_recv hK hP (ci := 7) (q0 := 0) rfl (oh_wg (Nat.lt_of_lt_of_le (by decide) hn) (sM_0 hT))) rfl hl.1 rfl (Nat.le_of_ble_eq_true rfl) dX7_says_147 ⟨Nat.le_of_ble_eq_true rfl, Nat.le_of_ble_eq_true rfl⟩ (fun r_44 hq_45 => ?_)
                  rw [hQ]
                  exact W.iret (v := r_44) hx hb hr (fun t ht hW => ⟨⟨r_44, C, rfl, ⟨hT, hF, hR⟩, ⟨by rw [ht]; exact hP, hD⟩⟩, hS.F ht⟩) hS.2.2 dX7_says_150
                · by_cases c_46 : x2 = 2
                  · refine lv_tableIn (off := 43) (tgt := 145) hx hb dX7_says_102 (by rw [c_46]; decide) (by rw [c_46]; decide) (by rw [c_46]; decide) (by decide) ?_
                    refine lv_aload_n hx hb dX7_says_145 rfl (lv_at hl 1 rfl) ?_
                    refine lv_iload_n hx hb dX7_says_146 rfl (lv_at hl 0 rfl) ?_
                    refine tq_V (As := [.int (ga (C 6) (x1).toNatClampNeg)]) (rest := []) (ws := (oh_W n a C)) ⟨hx, hb, hml, hown, htg⟩ (c_X7_axleOf l D E G a C n hn hT (ga (C 6) (x1).toNatClampNeg) (rg_w (oh_shown hT0 hR (rg_w (rg_il (rgL_i (rg_il (rnL_leu u_10.2 (rnL_lel u_10.1 (rgL_c (v := 0) (lo := 0) (hi := 0) (by decide)) (rgL_i (rg_any _))) (rgL_c (v := 7) (lo := 7) (hi := 7) (by decide)))))) (by decide)) (rg_in (rg_il (rgL_i (rg_il (rnL_leu u_10.2 (rnL_lel u_10.1 (rgL_c (v := 0) (lo := 0) (hi := 0) (by decide)) (rgL_i (rg_any _))) (rgL_c (v := 7) (lo := 7) (hi := 7) (by decide)))))) (by decide)) c_23) (by decide))) (cwV 1 htg (oh_gV q_1110 q_1112 q_31 q_73 q_1113) rfl rfl rfl pdVX7_axleOf ⟨Nat.le_of_ble_eq_true rfl, Nat.le_of_ble_eq_true rfl⟩) hK hP hG hS (va_recv hK hP (ci := 7) (q0 := 0) rfl (oh_wg (Nat.lt_of_lt_of_le (by decide) hn) (sM_0 hT))) rfl hl.1 rfl (Nat.le_of_ble_eq_true rfl) dX7_says_147 ⟨Nat.le_of_ble_eq_true rfl, Nat.le_of_ble_eq_true rfl⟩ (fun r_47 hq_48 => ?_)
                    rw [hQ]
                    exact W.iret (v := r_47) hx hb hr (fun t ht hW => ⟨⟨r_47, C, rfl, ⟨hT, hF, hR⟩, ⟨by rw [ht]; exact hP, hD⟩⟩, hS.F ht⟩) hS.2.2 dX7_says_150
                  · by_cases c_49 : x2 = 3
                    · refine lv_tableIn (off := 49) (tgt := 151) hx hb dX7_says_102 (by rw [c_49]; decide) (by rw [c_49]; decide) (by rw [c_49]; decide) (by decide) ?_
                      refine lv_aload_n hx hb dX7_says_151 rfl (lv_at hl 1 rfl) ?_
                      refine va_get (D := D) (ci := 7) (v := .ref (a 10)) (C := RX7) (T := TX7) (N := 29) hx hb htg ig_7 hown hK hP 0 (oh_wg (Nat.lt_of_lt_of_le (by decide) hn) (sM_0 hT)) rfl 12 (by decide) (htg _ q_985) (fun _ h9 => h9) rfl dX7_says_152 ?_
                      refine lv_iload_n hx hb dX7_says_155 rfl (lv_at hl 0 rfl) ?_
                      have n_50 : vp_in (ga (C 6) (x1).toNatClampNeg) 16 := (rg_in (oh_shown hT0 hR (rg_w (rg_il (rgL_i (rg_il (rnL_leu u_10.2 (rnL_lel u_10.1 (rgL_c (v := 0) (lo := 0) (hi := 0) (by decide)) (rgL_i (rg_any _))) (rgL_c (v := 7) (lo := 7) (hi := 7) (by decide)))))) (by decide)) (rg_in (rg_il (rgL_i (rg_il (rnL_leu u_10.2 (rnL_lel u_10.1 (rgL_c (v := 0) (lo := 0) (hi := 0) (by decide)) (rgL_i (rg_any _))) (rgL_c (v := 7) (lo := 7) (hi := 7) (by decide)))))) (by decide)) c_23) (by decide))
                      have b_51 : (ga (C 6) (x1).toNatClampNeg).toNatClampNeg < 16 := vp_lt n_50
                      refine th_aald hx hb hK hP 10 2 (Nat.lt_of_lt_of_le (by decide) hn) (sM_10 hT) rfl n_50 dX7_says_156 ?_
                      refine lv_iconst (v := 2) hx hb dX7_says_157 (by decide) ?_
                      refine th_iald hx hb hK hP (48 + (ga (C 6) (x1).toNatClampNeg).toNatClampNeg) (lt_blk b_51 hn (by decide)) (hT.bbridge b_51).1 (rg_in (rg_c (v := 2) (lo := 2) (hi := 2) (by decide)) (by decide)) dX7_says_158 ?_
                      rw [hQ]
                      exact W.iret (v := ga (C (48 + (ga (C 6) (x1).toNatClampNeg).toNatClampNeg)) ((2 : Int32)).toNatClampNeg) hx hb hr (fun t ht hW => ⟨⟨ga (C (48 + (ga (C 6) (x1).toNatClampNeg).toNatClampNeg)) ((2 : Int32)).toNatClampNeg, C, rfl, ⟨hT, hF, hR⟩, ⟨by rw [ht]; exact hP, hD⟩⟩, hS.F ht⟩) hS.2.2 dX7_says_159
                    · by_cases c_52 : x2 = 4
                      · refine lv_tableIn (off := 58) (tgt := 160) hx hb dX7_says_102 (by rw [c_52]; decide) (by rw [c_52]; decide) (by rw [c_52]; decide) (by decide) ?_
                        refine lv_aload_n hx hb dX7_says_160 rfl (lv_at hl 1 rfl) ?_
                        refine va_get (D := D) (ci := 7) (v := .ref (a 10)) (C := RX7) (T := TX7) (N := 29) hx hb htg ig_7 hown hK hP 0 (oh_wg (Nat.lt_of_lt_of_le (by decide) hn) (sM_0 hT)) rfl 12 (by decide) (htg _ q_985) (fun _ h9 => h9) rfl dX7_says_161 ?_
                        refine lv_iload_n hx hb dX7_says_164 rfl (lv_at hl 0 rfl) ?_
                        have n_53 : vp_in (ga (C 6) (x1).toNatClampNeg) 16 := (rg_in (oh_shown hT0 hR (rg_w (rg_il (rgL_i (rg_il (rnL_leu u_10.2 (rnL_lel u_10.1 (rgL_c (v := 0) (lo := 0) (hi := 0) (by decide)) (rgL_i (rg_any _))) (rgL_c (v := 7) (lo := 7) (hi := 7) (by decide)))))) (by decide)) (rg_in (rg_il (rgL_i (rg_il (rnL_leu u_10.2 (rnL_lel u_10.1 (rgL_c (v := 0) (lo := 0) (hi := 0) (by decide)) (rgL_i (rg_any _))) (rgL_c (v := 7) (lo := 7) (hi := 7) (by decide)))))) (by decide)) c_23) (by decide))
                        have b_54 : (ga (C 6) (x1).toNatClampNeg).toNatClampNeg < 16 := vp_lt n_53
                        refine th_aald hx hb hK hP 10 2 (Nat.lt_of_lt_of_le (by decide) hn) (sM_10 hT) rfl n_53 dX7_says_165 ?_
                        refine lv_bipush (v := 9) hx hb dX7_says_166 (by decide) ?_
                        refine th_iald hx hb hK hP (48 + (ga (C 6) (x1).toNatClampNeg).toNatClampNeg) (lt_blk b_54 hn (by decide)) (hT.bbridge b_54).1 (rg_in (rg_c (v := 9) (lo := 9) (hi := 9) (by decide)) (by decide)) dX7_says_168 ?_
                        rw [hQ]
                        exact W.iret (v := ga (C (48 + (ga (C 6) (x1).toNatClampNeg).toNatClampNeg)) ((9 : Int32)).toNatClampNeg) hx hb hr (fun t ht hW => ⟨⟨ga (C (48 + (ga (C 6) (x1).toNatClampNeg).toNatClampNeg)) ((9 : Int32)).toNatClampNeg, C, rfl, ⟨hT, hF, hR⟩, ⟨by rw [ht]; exact hP, hD⟩⟩, hS.F ht⟩) hS.2.2 dX7_says_169
                      · refine lv_tableOut (tgt := 170) hx hb dX7_says_102 (by have h9 := And.intro (oh_ne c_40 (k := 0) (by decide)) (And.intro (oh_ne c_43 (k := 1) (by decide)) (And.intro (oh_ne c_46 (k := 2) (by decide)) (And.intro (oh_ne c_49 (k := 3) (by decide)) (And.intro (oh_ne c_52 (k := 4) (by decide)) trivial)))); omega) (by decide) ?_
                        refine lv_aload_n hx hb dX7_says_170 rfl (lv_at hl 1 rfl) ?_
                        refine lv_iload_n hx hb dX7_says_171 rfl (lv_at hl 0 rfl) ?_
                        refine lv_aload_n hx hb dX7_says_172 rfl (lv_at hl 1 rfl) ?_
                        refine va_get (D := D) (ci := 7) (v := .ref (a 10)) (C := RX7) (T := TX7) (N := 29) hx hb htg ig_7 hown hK hP 0 (oh_wg (Nat.lt_of_lt_of_le (by decide) hn) (sM_0 hT)) rfl 12 (by decide) (htg _ q_985) (fun _ h9 => h9) rfl dX7_says_173 ?_
                        refine lv_iload_n hx hb dX7_says_176 rfl (lv_at hl 0 rfl) ?_
                        have n_55 : vp_in (ga (C 6) (x1).toNatClampNeg) 16 := (rg_in (oh_shown hT0 hR (rg_w (rg_il (rgL_i (rg_il (rnL_leu u_10.2 (rnL_lel u_10.1 (rgL_c (v := 0) (lo := 0) (hi := 0) (by decide)) (rgL_i (rg_any _))) (rgL_c (v := 7) (lo := 7) (hi := 7) (by decide)))))) (by decide)) (rg_in (rg_il (rgL_i (rg_il (rnL_leu u_10.2 (rnL_lel u_10.1 (rgL_c (v := 0) (lo := 0) (hi := 0) (by decide)) (rgL_i (rg_any _))) (rgL_c (v := 7) (lo := 7) (hi := 7) (by decide)))))) (by decide)) c_23) (by decide))
                        have b_56 : (ga (C 6) (x1).toNatClampNeg).toNatClampNeg < 16 := vp_lt n_55
                        refine th_aald hx hb hK hP 10 2 (Nat.lt_of_lt_of_le (by decide) hn) (sM_10 hT) rfl n_55 dX7_says_177 ?_
                        refine lv_bipush (v := 7) hx hb dX7_says_178 (by decide) ?_
                        refine th_iald hx hb hK hP (48 + (ga (C 6) (x1).toNatClampNeg).toNatClampNeg) (lt_blk b_56 hn (by decide)) (hT.bbridge b_56).1 (rg_in (rg_c (v := 7) (lo := 7) (hi := 7) (by decide)) (by decide)) dX7_says_180 ?_
                        refine lv_iconst (v := 1) hx hb dX7_says_181 (by decide) ?_
                        refine lv_icmp_ne (tgt := 189) hx hb dX7_says_182 (by decide) (fun (c_57 : ¬ ((ga (C (48 + (ga (C 6) (x1).toNatClampNeg).toNatClampNeg)) ((7 : Int32)).toNatClampNeg) = 1)) => ?_) (fun (c_57 : (ga (C (48 + (ga (C 6) (x1).toNatClampNeg).toNatClampNeg)) ((7 : Int32)).toNatClampNeg) = 1) => ?_)
                        · refine lv_iconst (v := 0) hx hb dX7_says_189 (by decide) ?_
                          refine tq_V (As := [.int (ga (C 6) (x1).toNatClampNeg), .int 0]) (rest := []) (ws := (oh_W n a C)) ⟨hx, hb, hml, hown, htg⟩ (c_X7_allOf l D E G a C n hn hT (ga (C 6) (x1).toNatClampNeg) (0 : Int32) (rg_w (oh_shown hT0 hR (rg_w (rg_il (rgL_i (rg_il (rnL_leu u_10.2 (rnL_lel u_10.1 (rgL_c (v := 0) (lo := 0) (hi := 0) (by decide)) (rgL_i (rg_any _))) (rgL_c (v := 7) (lo := 7) (hi := 7) (by decide)))))) (by decide)) (rg_in (rg_il (rgL_i (rg_il (rnL_leu u_10.2 (rnL_lel u_10.1 (rgL_c (v := 0) (lo := 0) (hi := 0) (by decide)) (rgL_i (rg_any _))) (rgL_c (v := 7) (lo := 7) (hi := 7) (by decide)))))) (by decide)) c_23) (by decide)) (rg_w (rg_c (v := 0) (lo := 0) (hi := 0) (by decide)) (by decide))) (cwV 2 htg (oh_gV q_1122 q_1124 q_34 q_73 q_1125) rfl rfl rfl pdVX7_allOf ⟨Nat.le_of_ble_eq_true rfl, Nat.le_of_ble_eq_true rfl⟩) hK hP hG hS (va_recv hK hP (ci := 7) (q0 := 0) rfl (oh_wg (Nat.lt_of_lt_of_le (by decide) hn) (sM_0 hT))) rfl hl.1 rfl (Nat.le_of_ble_eq_true rfl) dX7_says_190 ⟨Nat.le_of_ble_eq_true rfl, Nat.le_of_ble_eq_true rfl⟩ (fun r_58 hq_59 => ?_)
                          rw [hQ]
                          exact W.iret (v := r_58) hx hb hr (fun t ht hW => ⟨⟨r_58, C, rfl, ⟨hT, hF, hR⟩, ⟨by rw [ht]; exact hP, hD⟩⟩, hS.F ht⟩) hS.2.2 dX7_says_193
                        · refine lv_iconst (v := 1) hx hb dX7_says_185 (by decide) ?_
                          refine lv_goto (tgt := 190) hx hb dX7_says_186 (by decide) ?_
                          refine tq_V (As := [.int (ga (C 6) (x1).toNatClampNeg), .int 1]) (rest := []) (ws := (oh_W n a C)) ⟨hx, hb, hml, hown, htg⟩ (c_X7_allOf l D E G a C n hn hT (ga (C 6) (x1).toNatClampNeg) (1 : Int32) (rg_w (oh_shown hT0 hR (rg_w (rg_il (rgL_i (rg_il (rnL_leu u_10.2 (rnL_lel u_10.1 (rgL_c (v := 0) (lo := 0) (hi := 0) (by decide)) (rgL_i (rg_any _))) (rgL_c (v := 7) (lo := 7) (hi := 7) (by decide)))))) (by decide)) (rg_in (rg_il (rgL_i (rg_il (rnL_leu u_10.2 (rnL_lel u_10.1 (rgL_c (v := 0) (lo := 0) (hi := 0) (by decide)) (rgL_i (rg_any _))) (rgL_c (v := 7) (lo := 7) (hi := 7) (by decide)))))) (by decide)) c_23) (by decide)) (rg_w (rg_c (v := 1) (lo := 1) (hi := 1) (by decide)) (by decide))) (cwV 2 htg (oh_gV q_1122 q_1124 q_34 q_73 q_1125) rfl rfl rfl pdVX7_allOf ⟨Nat.le_of_ble_eq_true rfl, Nat.le_of_ble_eq_true rfl⟩) hK hP hG hS (va_recv hK hP (ci := 7) (q0 := 0) rfl (oh_wg (Nat.lt_of_lt_of_le (by decide) hn) (sM_0 hT))) rfl hl.1 rfl (Nat.le_of_ble_eq_true rfl) dX7_says_190 ⟨Nat.le_of_ble_eq_true rfl, Nat.le_of_ble_eq_true rfl⟩ (fun r_60 hq_61 => ?_)
                          rw [hQ]
                          exact W.iret (v := r_60) hx hb hr (fun t ht hW => ⟨⟨r_60, C, rfl, ⟨hT, hF, hR⟩, ⟨by rw [ht]; exact hP, hD⟩⟩, hS.F ht⟩) hS.2.2 dX7_says_193
            · refine lv_aload_n hx hb dX7_says_87 rfl (lv_at hl 0 rfl) ?_
              refine lv_bipush (v := (-4)) hx hb dX7_says_88 (by decide) ?_
              refine tm_V (As := [.int (-4)]) (rest := []) ⟨hx, hb, hml, hown, htg⟩ (c_X7_refuse l D E G _ a C n hn hT ((-4) : Int32) (rg_w (rg_c (v := (-4)) (lo := (-4)) (hi := (-4)) (by decide)) (by decide))) (cwV 1 htg (oh_gV q_1071 q_1073 q_29 q_73 q_1074) rfl rfl rfl pdVX7_refuse ⟨Nat.le_of_ble_eq_true rfl, Nat.le_of_ble_eq_true rfl⟩) hK hP hD hG hS hA (va_recv hK hP (ci := 7) (q0 := 0) rfl (oh_wg (Nat.lt_of_lt_of_le (by decide) hn) (sM_0 hT))) rfl hl.1 rfl (Nat.le_of_ble_eq_true rfl) dX7_says_90 ⟨Nat.le_of_ble_eq_true rfl, Nat.le_of_ble_eq_true rfl⟩ (fun r_62 C_63 H locs hq_64 hP hD hS => ?_)
              obtain ⟨hT, f_65, hq_64⟩ := hq_64
              have hF := fr_tr hF f_65 (by decide) (by decide)
              refine W.widen (k := 0) (n := 0) (Nat.le_refl _) (Nat.le_refl _) ?_
              have t_66 := hT
              rw [hQ]
              exact W.iret (v := r_62) hx hb hr (fun t ht hW => ⟨⟨r_62, C_63, rfl, ⟨hT, hF, ⟨hR.1.fr hF (by decide), hR.2.fr hF (by decide)⟩⟩, ⟨by rw [ht]; exact hP, hD⟩⟩, hS.F ht⟩) hS.2.2 dX7_says_93
          · refine lv_aload_n hx hb dX7_says_71 rfl (lv_at hl 0 rfl) ?_
            refine lv_bipush (v := (-3)) hx hb dX7_says_72 (by decide) ?_
            refine tm_V (As := [.int (-3)]) (rest := []) ⟨hx, hb, hml, hown, htg⟩ (c_X7_refuse l D E G _ a C n hn hT ((-3) : Int32) (rg_w (rg_c (v := (-3)) (lo := (-3)) (hi := (-3)) (by decide)) (by decide))) (cwV 1 htg (oh_gV q_1071 q_1073 q_29 q_73 q_1074) rfl rfl rfl pdVX7_refuse ⟨Nat.le_of_ble_eq_true rfl, Nat.le_of_ble_eq_true rfl⟩) hK hP hD hG hS hA (va_recv hK hP (ci := 7) (q0 := 0) rfl (oh_wg (Nat.lt_of_lt_of_le (by decide) hn) (sM_0 hT))) rfl hl.1 rfl (Nat.le_of_ble_eq_true rfl) dX7_says_74 ⟨Nat.le_of_ble_eq_true rfl, Nat.le_of_ble_eq_true rfl⟩ (fun r_67 C_68 H locs hq_69 hP hD hS => ?_)
            obtain ⟨hT, f_70, hq_69⟩ := hq_69
            have hF := fr_tr hF f_70 (by decide) (by decide)
            refine W.widen (k := 0) (n := 0) (Nat.le_refl _) (Nat.le_refl _) ?_
            have t_71 := hT
            rw [hQ]
            exact W.iret (v := r_67) hx hb hr (fun t ht hW => ⟨⟨r_67, C_68, rfl, ⟨hT, hF, ⟨hR.1.fr hF (by decide), hR.2.fr hF (by decide)⟩⟩, ⟨by rw [ht]; exact hP, hD⟩⟩, hS.F ht⟩) hS.2.2 dX7_says_77
    · have u_72 := hq_12.2.2 c_13
      refine lv_aload_n hx hb dX7_says_24 rfl (lv_at hl 0 rfl) ?_
      refine lv_bipush (v := (-2)) hx hb dX7_says_25 (by decide) ?_
      refine tm_V (As := [.int (-2)]) (rest := []) ⟨hx, hb, hml, hown, htg⟩ (c_X7_refuse l D E G _ a C n hn hT ((-2) : Int32) (rg_w (rg_c (v := (-2)) (lo := (-2)) (hi := (-2)) (by decide)) (by decide))) (cwV 1 htg (oh_gV q_1071 q_1073 q_29 q_73 q_1074) rfl rfl rfl pdVX7_refuse ⟨Nat.le_of_ble_eq_true rfl, Nat.le_of_ble_eq_true rfl⟩) hK hP hD hG hS hA (va_recv hK hP (ci := 7) (q0 := 0) rfl (oh_wg (Nat.lt_of_lt_of_le (by decide) hn) (sM_0 hT))) rfl hl.1 rfl (Nat.le_of_ble_eq_true rfl) dX7_says_27 ⟨Nat.le_of_ble_eq_true rfl, Nat.le_of_ble_eq_true rfl⟩ (fun r_73 C_74 H locs hq_75 hP hD hS => ?_)
      obtain ⟨hT, f_76, hq_75⟩ := hq_75
      have hF := fr_tr hF f_76 (by decide) (by decide)
      refine W.widen (k := 0) (n := 0) (Nat.le_refl _) (Nat.le_refl _) ?_
      have t_77 := hT
      rw [hQ]
      exact W.iret (v := r_73) hx hb hr (fun t ht hW => ⟨⟨r_73, C_74, rfl, ⟨hT, hF, ⟨hR.1.fr hF (by decide), hR.2.fr hF (by decide)⟩⟩, ⟨by rw [ht]; exact hP, hD⟩⟩, hS.F ht⟩) hS.2.2 dX7_says_30

theorem oh_relWadd {C u : Nat → va_E} {w : Nat} (h : RelW C) (hw : (w : Int) = (gi (C 0) 13).toInt) (e13 : (gi (u 0) 13).toInt = (gi (C 0) 13).toInt + 1) (er : ∀ i, i < 5 → i ≠ w → u (64 + i) = C (64 + i)) (r0 : 1 ≤ (ga (u (64 + w)) 0).toInt) (r1 : 1 ≤ (ga (u (64 + w)) 1).toInt) (e14 : u 14 = C 14) : RelW u := by
  refine ⟨fun i hi hl => ?_, fun h9 => ?_⟩
  · by_cases e : i = w
    · rw [e]
      exact ⟨r0, r1⟩
    · rw [er i hi e]
      exact h.1 i hi (by omega)
  · rw [e14] at h9 ⊢
    have := h.2 h9
    omega
theorem oh_inc13 {x : Int32} (h : rg x 0 5) : (x + 1).toInt = x.toInt + 1 := by
  rw [Int32.toInt_add]
  exact oh_bmod (by show _ ≤ x.toInt + 1; have := h.1; omega) (by show x.toInt + 1 ≤ _; have := h.2; omega)

set_option maxHeartbeats 4000000 in
set_option maxRecDepth 100000 in
theorem c_X7_wipe (l : Launch) (D : va_G) (E : Nat → ClassId) (G : Nat → Nat) (sz : Nat) (a : Nat → Nat) (C : Nat → va_E) (n : Nat) (hn : 74 ≤ n) (hT : TyM a E C) (hR : RelM C) : Met l yX7_wipe (oh_w yX7_wipe cX7_wipe 2 (some .int)) ({ frames := 0, cells := 0, slots := 0, locals := 0 }) (oh_Pm D E G [.ref (a 0)] (oh_W n a C) sz) (va_Qi (fun r (u : Nat → va_E) => TyM a E u ∧ fr [] [7] C u ∧ (RelM u) ∧ ((r = gi (C 0) 7) ∧ (gi (u 0) 7 = 0))) (oh_B D (va_A (oh_W n a C) sz) (fun u => oh_W n a u)) (va_A (oh_W n a C) sz)) 0 0 (va_A (oh_W n a C) sz) := by
  refine Met.ofW (cc := cX7_wipe) (maxL := 2) (ret := (some .int)) (by decide) rfl ?_
  intro p e s m args below meth c s₁ B hml hv
  obtain ⟨rfl, hsz, hP, hK, hD0, hG⟩ := hv
  have hx := B.exec
  have hb := B.bytes
  have hr := B.returns
  have hts := atoms_spec (ws := (oh_w yX7_wipe cX7_wipe 2 (some .int))) B.pre
  have htg : ∀ w ∈ oh_t, w.before _ s = true := fun w h => hts w (List.mem_cons_of_mem _ h)
  have hown : s.vm.findClass RX7 = some m.cls := findClass_of_methodNamed B.named
  have hlocks := B.notSynchronized
  have hT0 := hT
  subst hsz
  have hD := hD0.self (sz := s.heap.size)
  generalize hAe : va_A (oh_W n a C) s.heap.size = A at hD hG ⊢
  have hA : ∀ q : Nat, s.heap.size ≤ q → A q := fun q h => by rw [← hAe]; exact Or.inr h
  have hS : va_S A s.heap s.heap [] := va_S.rf
  have hF : fr [] [7] C C := fr_rf
  have hl := lv_entry ([.ref (a 0)]) (n := 2) (Nat.le_of_ble_eq_true rfl)
  rw [lg_entry_eq]
  generalize (lg_sl ([.ref (a 0)]) ++ List.replicate (2 - (lg_sl ([.ref (a 0)])).length) Slot.unset).toArray = ls at hl ⊢
  have hl : lv_has ls 2 [(0, .ref (a 0))] := hl
  refine oh_genQ (fun Q hQ => ?_)
  refine lv_aload_n hx hb dX7_wipe_0 rfl (lv_at hl 0 rfl) ?_
  refine va_get (D := D) (ci := 7) (v := .int (gi (C 0) 7)) (C := RX7) (T := TX7) (N := 29) hx hb htg ig_7 hown hK hP 0 (oh_wg (Nat.lt_of_lt_of_le (by decide) hn) (sM_0 hT)) rfl 7 (by decide) (htg _ q_980) (fun _ h9 => h9) rfl dX7_wipe_1 ?_
  refine lv_istore_n (lv' := [(1, .int (gi (C 0) 7)), (0, .ref (a 0))]) hx hb dX7_wipe_4 rfl hl (by decide) rfl (fun ls hl => ?_)
  refine lv_aload_n hx hb dX7_wipe_5 rfl (lv_at hl 1 rfl) ?_
  refine lv_iconst (v := 0) hx hb dX7_wipe_6 (by decide) ?_
  refine th_put (Tp := TyM a E) (Rl := fr [] [7] C) (ci := 7) (v := .int 0) (ty := .int) (CC := RX7) (T := TX7) (N := 29) hx hb htg ig_7 tyX7 tyX7_ok nmX7 hown hK hP hD hS 0 (Nat.lt_of_lt_of_le (by decide) hn) (sM_0 hT) rfl 7 (by decide) (htg _ q_980) (fun _ h9 => h9) rfl (by decide +kernel) rfl rfl (Nat.le_of_ble_eq_true rfl) (hT.up 0 (by decide) ⟨rfl, (rg_w (rg_c (v := 0) (lo := 0) (hi := 0) (by decide)) (by decide)), (fM_0_9 hT), (fM_0_11 hT), (fM_0_13 hT), (fM_0_15 hT), (fM_0_21 hT), (fM_0_23 hT)⟩) (fr_fd hF (sM_0 hT) (by decide)) dX7_wipe_7 (fun C_1 H locs e_2 hT hF hP hD hS => ?_)
  have t_3 := hT
  refine lv_iload_n hx hb dX7_wipe_10 rfl (lv_at hl 0 rfl) ?_
  rw [hQ]
  exact W.iret (v := gi (C 0) 7) hx hb hr (fun t ht hW => ⟨⟨gi (C 0) 7, C_1, rfl, ⟨hT, hF, ⟨⟨hR.1.fr hF (by decide), hR.2.fr hF (by decide)⟩, ⟨rfl, (show gi (C_1 0) 7 = (0 : Int32) by rw [e_2]; rfl)⟩⟩⟩, ⟨by rw [ht]; exact hP, hD⟩⟩, hS.F ht⟩) hS.2.2 dX7_wipe_11
