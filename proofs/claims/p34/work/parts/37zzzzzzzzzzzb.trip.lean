/-! FULL: what is kept of a load on its way; begin -/
theorem tx_cp {c t c' t' : Nat} {C u : Nat → va_E} {T : TP} (h : absTX c t C T) (e7 : gi (u c') 7 = gi (C c) 7) (e6 : ∀ j, j < 7 → ga (u t') j = ga (C t) j) : absTX c' t' u T := by
  obtain ⟨t0, t1, t2, t3, t4, t5, t6, t7⟩ := h
  exact ⟨e7.trans t0, (e6 5 (by decide)).trans t1, (e6 6 (by decide)).trans t2, (e6 0 (by decide)).trans t3, (e6 1 (by decide)).trans t4, (e6 3 (by decide)).trans t5, (e6 4 (by decide)).trans t6, (e6 2 (by decide)).trans t7⟩
def bgR (w s f t c : Int32) : TP
  | 0 => 1
  | 1 => w
  | 2 => s
  | 3 => f
  | 4 => t
  | 7 => c
  | _ => 0
def okJ (A : LA) (w s f t : Int32) : Prop := okPk (A 5 0 2) (A 5 0 3) w s ∧ (0 ≤ f ∧ f ≤ 15) ∧ (0 ≤ t ∧ t ≤ 15)
noncomputable def bgT (A : LA) (w s f t : Int32) (T : TP) : TP := pif (okJ A w s f t) (bgR w s f t (sumA A s 1 (A 5 0 3).toNatClampNeg)) T
theorem relT {M : Nat → va_E} {A : LA} {T : TP} (hR : RelM M) (hA : absM M A) (hT : absTM M T) : T 0 = 0 ∨ T 1 < A 5 0 2 := by
  by_cases q : ga (M 14) 0 = 0
  · exact Or.inl ((hT.1 0 (by decide)).symm.trans q)
  · refine Or.inr (Int32.lt_iff_toInt_lt.mpr ?_)
    have e1 : ga (M 14) 1 = T 1 := hT.1 1 (by decide)
    have e2 : gi (M 0) 13 = A 5 0 2 := hA.1 2 (by decide)
    rw [← e1, ← e2]
    exact hR.1.2 q
/-- what under tells -/
noncomputable def spUnd (T : TP) (w : Int32) : Int32 := pif (0 ≤ w ∧ w ≤ 4) (pif (T 0 = 0) (-5) (pif (w = 0) (T 3) (pif (w = 1) (T 4) (pif (w = 2) (T 7) (pif (w = 3) (T 5) (T 6)))))) (-2)

set_option maxHeartbeats 4000000 in
set_option maxRecDepth 100000 in
theorem e2_X0_become_b (l : Launch) (D : va_G) (E : Nat → ClassId) (G : Nat → Nat) (sz : Nat) (a : Nat → Nat) (C : Nat → va_E) (hT : TyX a E C) : Met l yX0_become (oh_w yX0_become cX0_become 2 none) ({ frames := 1, cells := 0, slots := 0, locals := 18 }) (oh_Pm D E G [.ref (a 1), .ref (a 2)] (oh_W 35 a C) sz) (va_Qv (fun (u : Nat → va_E) => TyX a E u ∧ fr [(1, 2), (10, 17)] [] C u ∧ (∀ A : LA, absX 17 C A → absX 10 u A) ∧ (∀ T : TP, absTX 2 23 C T → absTX 1 16 u T)) (oh_B D (va_A (oh_W 35 a C) sz) (fun u => oh_W 35 a u)) (va_A (oh_W 35 a C) sz)) 0 0 (va_A (oh_W 35 a C) sz) := by
  refine Met.ofW (cc := cX0_become) (maxL := 2) (ret := none) (by decide) rfl ?_
  intro p e s m args below meth c s₁ B hml hv
  obtain ⟨rfl, hsz, hP, hK, hD0, hG⟩ := hv
  have hx := B.exec
  have hb := B.bytes
  have hr := B.returns
  have hts := atoms_spec (ws := (oh_w yX0_become cX0_become 2 none)) B.pre
  have htg : ∀ w ∈ oh_t, w.before _ s = true := fun w h => hts w (List.mem_cons_of_mem _ h)
  have hown : s.vm.findClass RX0 = some m.cls := findClass_of_methodNamed B.named
  have hlocks := B.notSynchronized
  have hT0 := hT
  subst hsz
  have hD := hD0.self (sz := s.heap.size)
  generalize hAe : va_A (oh_W 35 a C) s.heap.size = A at hD hG ⊢
  have hA : ∀ q : Nat, s.heap.size ≤ q → A q := fun q h => by rw [← hAe]; exact Or.inr h
  have hS : va_S A s.heap s.heap [] := va_S.rf
  have hF : fr [(1, 2), (10, 17)] [] C C := fr_rf
  have hl := lv_entry ([.ref (a 1), .ref (a 2)]) (n := 2) (Nat.le_of_ble_eq_true rfl)
  rw [lg_entry_eq]
  generalize (lg_sl ([.ref (a 1), .ref (a 2)]) ++ List.replicate (2 - (lg_sl ([.ref (a 1), .ref (a 2)])).length) Slot.unset).toArray = ls at hl ⊢
  have hl : lv_has ls 2 [(0, .ref (a 1)), (1, .ref (a 2))] := hl
  refine oh_genQ (fun Q hQ => ?_)
  refine lv_aload_n hx hb dX0_become_0 rfl (lv_at hl 1 rfl) ?_
  refine va_get (D := D) (ci := 0) (v := .ref (a 17)) (C := RX0) (T := TX0) (N := 8) hx hb htg ig_0 hown hK hP 2 (oh_wg (by decide) (sX_2 hT)) rfl 0 (by decide) (htg _ q_97) (fun _ h9 => h9) rfl dX0_become_1 ?_
  refine lv_iconst (v := 0) hx hb dX0_become_4 (by decide) ?_
  refine lv_aload_n hx hb dX0_become_5 rfl (lv_at hl 0 rfl) ?_
  refine va_get (D := D) (ci := 0) (v := .ref (a 10)) (C := RX0) (T := TX0) (N := 8) hx hb htg ig_0 hown hK hP 1 (oh_wg (by decide) (sX_1 hT)) rfl 0 (by decide) (htg _ q_97) (fun _ h9 => h9) rfl dX0_become_6 ?_
  refine lv_iconst (v := 0) hx hb dX0_become_9 (by decide) ?_
  refine lv_aload_n hx hb dX0_become_10 rfl (lv_at hl 0 rfl) ?_
  refine va_get (D := D) (ci := 0) (v := .ref (a 10)) (C := RX0) (T := TX0) (N := 8) hx hb htg ig_0 hown hK hP 1 (oh_wg (by decide) (sX_1 hT)) rfl 0 (by decide) (htg _ q_97) (fun _ h9 => h9) rfl dX0_become_11 ?_
  refine va_alen (v := 4) hx hb hK hP 10 0 (oh_wg (by decide) (sX_10 hT)) rfl (show Int32.ofNat 4 = 4 by decide) dX0_become_14 ?_
  refine th_copyi (T := TyX a E) (Rl := fr [(1, 2), (10, 17)] [] C) hx hb (by rw [hml]; exact hl.1.symm) hown (htg _ q_941) (htg _ q_347) (htg _ q_346) (htg _ q_74) hK hP hD hS 17 10 (by decide) (by decide) (sX_17 hT) (sX_10 hT) (by decide) (by decide) (by decide) (by decide) (by decide) (hT.up 10 (tA_cpy (tX_17 hT) (tX_10 hT))) (fr_st hF (by decide) (by decide)) (Nat.le_of_ble_eq_true rfl) (Nat.le_of_ble_eq_true rfl) dX0_become_15 (fun C_1 H locs e_2 hT hF hP hD hS => ?_)
  have t_3 := hT
  refine lv_aload_n hx hb dX0_become_18 rfl (lv_at hl 1 rfl) ?_
  refine va_get (D := D) (ci := 0) (v := .ref (a 18)) (C := RX0) (T := TX0) (N := 8) hx hb htg ig_0 hown hK hP 2 (oh_wg (by decide) (sX_2 hT)) rfl 1 (by decide) (htg _ q_101) (fun _ h9 => h9) rfl dX0_become_19 ?_
  refine lv_iconst (v := 0) hx hb dX0_become_22 (by decide) ?_
  refine lv_aload_n hx hb dX0_become_23 rfl (lv_at hl 0 rfl) ?_
  refine va_get (D := D) (ci := 0) (v := .ref (a 11)) (C := RX0) (T := TX0) (N := 8) hx hb htg ig_0 hown hK hP 1 (oh_wg (by decide) (sX_1 hT)) rfl 1 (by decide) (htg _ q_101) (fun _ h9 => h9) rfl dX0_become_24 ?_
  refine lv_iconst (v := 0) hx hb dX0_become_27 (by decide) ?_
  refine lv_aload_n hx hb dX0_become_28 rfl (lv_at hl 0 rfl) ?_
  refine va_get (D := D) (ci := 0) (v := .ref (a 11)) (C := RX0) (T := TX0) (N := 8) hx hb htg ig_0 hown hK hP 1 (oh_wg (by decide) (sX_1 hT)) rfl 1 (by decide) (htg _ q_101) (fun _ h9 => h9) rfl dX0_become_29 ?_
  refine va_alen (v := 168) hx hb hK hP 11 0 (oh_wg (by decide) (sX_11 hT)) rfl (show Int32.ofNat 168 = 168 by decide) dX0_become_32 ?_
  refine th_copyi (T := TyX a E) (Rl := fr [(1, 2), (10, 17)] [] C) hx hb (by rw [hml]; exact hl.1.symm) hown (htg _ q_941) (htg _ q_347) (htg _ q_346) (htg _ q_74) hK hP hD hS 18 11 (by decide) (by decide) (sX_18 hT) (sX_11 hT) (by decide) (by decide) (by decide) (by decide) (by decide) (hT.up 11 (tA_cpy (tX_18 hT) (tX_11 hT))) (fr_st hF (by decide) (by decide)) (Nat.le_of_ble_eq_true rfl) (Nat.le_of_ble_eq_true rfl) dX0_become_33 (fun C_4 H locs e_5 hT hF hP hD hS => ?_)
  have t_6 := hT
  refine lv_aload_n hx hb dX0_become_36 rfl (lv_at hl 1 rfl) ?_
  refine va_get (D := D) (ci := 0) (v := .ref (a 19)) (C := RX0) (T := TX0) (N := 8) hx hb htg ig_0 hown hK hP 2 (oh_wg (by decide) (sX_2 hT)) rfl 2 (by decide) (htg _ q_103) (fun _ h9 => h9) rfl dX0_become_37 ?_
  refine lv_iconst (v := 0) hx hb dX0_become_40 (by decide) ?_
  refine lv_aload_n hx hb dX0_become_41 rfl (lv_at hl 0 rfl) ?_
  refine va_get (D := D) (ci := 0) (v := .ref (a 12)) (C := RX0) (T := TX0) (N := 8) hx hb htg ig_0 hown hK hP 1 (oh_wg (by decide) (sX_1 hT)) rfl 2 (by decide) (htg _ q_103) (fun _ h9 => h9) rfl dX0_become_42 ?_
  refine lv_iconst (v := 0) hx hb dX0_become_45 (by decide) ?_
  refine lv_aload_n hx hb dX0_become_46 rfl (lv_at hl 0 rfl) ?_
  refine va_get (D := D) (ci := 0) (v := .ref (a 12)) (C := RX0) (T := TX0) (N := 8) hx hb htg ig_0 hown hK hP 1 (oh_wg (by decide) (sX_1 hT)) rfl 2 (by decide) (htg _ q_103) (fun _ h9 => h9) rfl dX0_become_47 ?_
  refine va_alen (v := 160) hx hb hK hP 12 0 (oh_wg (by decide) (sX_12 hT)) rfl (show Int32.ofNat 160 = 160 by decide) dX0_become_50 ?_
  refine th_copyi (T := TyX a E) (Rl := fr [(1, 2), (10, 17)] [] C) hx hb (by rw [hml]; exact hl.1.symm) hown (htg _ q_941) (htg _ q_347) (htg _ q_346) (htg _ q_74) hK hP hD hS 19 12 (by decide) (by decide) (sX_19 hT) (sX_12 hT) (by decide) (by decide) (by decide) (by decide) (by decide) (hT.up 12 (tA_cpy (tX_19 hT) (tX_12 hT))) (fr_st hF (by decide) (by decide)) (Nat.le_of_ble_eq_true rfl) (Nat.le_of_ble_eq_true rfl) dX0_become_51 (fun C_7 H locs e_8 hT hF hP hD hS => ?_)
  have t_9 := hT
  refine lv_aload_n hx hb dX0_become_54 rfl (lv_at hl 1 rfl) ?_
  refine va_get (D := D) (ci := 0) (v := .ref (a 20)) (C := RX0) (T := TX0) (N := 8) hx hb htg ig_0 hown hK hP 2 (oh_wg (by decide) (sX_2 hT)) rfl 3 (by decide) (htg _ q_104) (fun _ h9 => h9) rfl dX0_become_55 ?_
  refine lv_iconst (v := 0) hx hb dX0_become_58 (by decide) ?_
  refine lv_aload_n hx hb dX0_become_59 rfl (lv_at hl 0 rfl) ?_
  refine va_get (D := D) (ci := 0) (v := .ref (a 13)) (C := RX0) (T := TX0) (N := 8) hx hb htg ig_0 hown hK hP 1 (oh_wg (by decide) (sX_1 hT)) rfl 3 (by decide) (htg _ q_104) (fun _ h9 => h9) rfl dX0_become_60 ?_
  refine lv_iconst (v := 0) hx hb dX0_become_63 (by decide) ?_
  refine lv_aload_n hx hb dX0_become_64 rfl (lv_at hl 0 rfl) ?_
  refine va_get (D := D) (ci := 0) (v := .ref (a 13)) (C := RX0) (T := TX0) (N := 8) hx hb htg ig_0 hown hK hP 1 (oh_wg (by decide) (sX_1 hT)) rfl 3 (by decide) (htg _ q_104) (fun _ h9 => h9) rfl dX0_become_65 ?_
  refine va_alen (v := 15) hx hb hK hP 13 0 (oh_wg (by decide) (sX_13 hT)) rfl (show Int32.ofNat 15 = 15 by decide) dX0_become_68 ?_
  refine th_copyi (T := TyX a E) (Rl := fr [(1, 2), (10, 17)] [] C) hx hb (by rw [hml]; exact hl.1.symm) hown (htg _ q_941) (htg _ q_347) (htg _ q_346) (htg _ q_74) hK hP hD hS 20 13 (by decide) (by decide) (sX_20 hT) (sX_13 hT) (by decide) (by decide) (by decide) (by decide) (by decide) (hT.up 13 (tA_cpy (tX_20 hT) (tX_13 hT))) (fr_st hF (by decide) (by decide)) (Nat.le_of_ble_eq_true rfl) (Nat.le_of_ble_eq_true rfl) dX0_become_69 (fun C_10 H locs e_11 hT hF hP hD hS => ?_)
  have t_12 := hT
  refine lv_aload_n hx hb dX0_become_72 rfl (lv_at hl 1 rfl) ?_
  refine va_get (D := D) (ci := 0) (v := .ref (a 21)) (C := RX0) (T := TX0) (N := 8) hx hb htg ig_0 hown hK hP 2 (oh_wg (by decide) (sX_2 hT)) rfl 4 (by decide) (htg _ q_105) (fun _ h9 => h9) rfl dX0_become_73 ?_
  refine lv_iconst (v := 0) hx hb dX0_become_76 (by decide) ?_
  refine lv_aload_n hx hb dX0_become_77 rfl (lv_at hl 0 rfl) ?_
  refine va_get (D := D) (ci := 0) (v := .ref (a 14)) (C := RX0) (T := TX0) (N := 8) hx hb htg ig_0 hown hK hP 1 (oh_wg (by decide) (sX_1 hT)) rfl 4 (by decide) (htg _ q_105) (fun _ h9 => h9) rfl dX0_become_78 ?_
  refine lv_iconst (v := 0) hx hb dX0_become_81 (by decide) ?_
  refine lv_aload_n hx hb dX0_become_82 rfl (lv_at hl 0 rfl) ?_
  refine va_get (D := D) (ci := 0) (v := .ref (a 14)) (C := RX0) (T := TX0) (N := 8) hx hb htg ig_0 hown hK hP 1 (oh_wg (by decide) (sX_1 hT)) rfl 4 (by decide) (htg _ q_105) (fun _ h9 => h9) rfl dX0_become_83 ?_
  refine va_alen (v := 10) hx hb hK hP 14 0 (oh_wg (by decide) (sX_14 hT)) rfl (show Int32.ofNat 10 = 10 by decide) dX0_become_86 ?_
  refine th_copyi (T := TyX a E) (Rl := fr [(1, 2), (10, 17)] [] C) hx hb (by rw [hml]; exact hl.1.symm) hown (htg _ q_941) (htg _ q_347) (htg _ q_346) (htg _ q_74) hK hP hD hS 21 14 (by decide) (by decide) (sX_21 hT) (sX_14 hT) (by decide) (by decide) (by decide) (by decide) (by decide) (hT.up 14 (tA_cpy (tX_21 hT) (tX_14 hT))) (fr_st hF (by decide) (by decide)) (Nat.le_of_ble_eq_true rfl) (Nat.le_of_ble_eq_true rfl) dX0_become_87 (fun C_13 H locs e_14 hT hF hP hD hS => ?_)
  have t_15 := hT
  refine lv_aload_n hx hb dX0_become_90 rfl (lv_at hl 1 rfl) ?_
  refine va_get (D := D) (ci := 0) (v := .ref (a 22)) (C := RX0) (T := TX0) (N := 8) hx hb htg ig_0 hown hK hP 2 (oh_wg (by decide) (sX_2 hT)) rfl 5 (by decide) (htg _ q_106) (fun _ h9 => h9) rfl dX0_become_91 ?_
  refine lv_iconst (v := 0) hx hb dX0_become_94 (by decide) ?_
  refine lv_aload_n hx hb dX0_become_95 rfl (lv_at hl 0 rfl) ?_
  refine va_get (D := D) (ci := 0) (v := .ref (a 15)) (C := RX0) (T := TX0) (N := 8) hx hb htg ig_0 hown hK hP 1 (oh_wg (by decide) (sX_1 hT)) rfl 5 (by decide) (htg _ q_106) (fun _ h9 => h9) rfl dX0_become_96 ?_
  refine lv_iconst (v := 0) hx hb dX0_become_99 (by decide) ?_
  refine lv_aload_n hx hb dX0_become_100 rfl (lv_at hl 0 rfl) ?_
  refine va_get (D := D) (ci := 0) (v := .ref (a 15)) (C := RX0) (T := TX0) (N := 8) hx hb htg ig_0 hown hK hP 1 (oh_wg (by decide) (sX_1 hT)) rfl 5 (by decide) (htg _ q_106) (fun _ h9 => h9) rfl dX0_become_101 ?_
  refine va_alen (v := 3) hx hb hK hP 15 0 (oh_wg (by decide) (sX_15 hT)) rfl (show Int32.ofNat 3 = 3 by decide) dX0_become_104 ?_
  refine th_copyi (T := TyX a E) (Rl := fr [(1, 2), (10, 17)] [] C) hx hb (by rw [hml]; exact hl.1.symm) hown (htg _ q_941) (htg _ q_347) (htg _ q_346) (htg _ q_74) hK hP hD hS 22 15 (by decide) (by decide) (sX_22 hT) (sX_15 hT) (by decide) (by decide) (by decide) (by decide) (by decide) (hT.up 15 (tA_cpy (tX_22 hT) (tX_15 hT))) (fr_st hF (by decide) (by decide)) (Nat.le_of_ble_eq_true rfl) (Nat.le_of_ble_eq_true rfl) dX0_become_105 (fun C_16 H locs e_17 hT hF hP hD hS => ?_)
  have t_18 := hT
  refine lv_aload_n hx hb dX0_become_108 rfl (lv_at hl 1 rfl) ?_
  refine va_get (D := D) (ci := 0) (v := .ref (a 23)) (C := RX0) (T := TX0) (N := 8) hx hb htg ig_0 hown hK hP 2 (oh_wg (by decide) (sX_2 hT)) rfl 6 (by decide) (htg _ q_111) (fun _ h9 => h9) rfl dX0_become_109 ?_
  refine lv_iconst (v := 0) hx hb dX0_become_112 (by decide) ?_
  refine lv_aload_n hx hb dX0_become_113 rfl (lv_at hl 0 rfl) ?_
  refine va_get (D := D) (ci := 0) (v := .ref (a 16)) (C := RX0) (T := TX0) (N := 8) hx hb htg ig_0 hown hK hP 1 (oh_wg (by decide) (sX_1 hT)) rfl 6 (by decide) (htg _ q_111) (fun _ h9 => h9) rfl dX0_become_114 ?_
  refine lv_iconst (v := 0) hx hb dX0_become_117 (by decide) ?_
  refine lv_aload_n hx hb dX0_become_118 rfl (lv_at hl 0 rfl) ?_
  refine va_get (D := D) (ci := 0) (v := .ref (a 16)) (C := RX0) (T := TX0) (N := 8) hx hb htg ig_0 hown hK hP 1 (oh_wg (by decide) (sX_1 hT)) rfl 6 (by decide) (htg _ q_111) (fun _ h9 => h9) rfl dX0_become_119 ?_
  refine va_alen (v := 7) hx hb hK hP 16 0 (oh_wg (by decide) (sX_16 hT)) rfl (show Int32.ofNat 7 = 7 by decide) dX0_become_122 ?_
  refine th_copyi (T := TyX a E) (Rl := fr [(1, 2), (10, 17)] [] C) hx hb (by rw [hml]; exact hl.1.symm) hown (htg _ q_941) (htg _ q_347) (htg _ q_346) (htg _ q_74) hK hP hD hS 23 16 (by decide) (by decide) (sX_23 hT) (sX_16 hT) (by decide) (by decide) (by decide) (by decide) (by decide) (hT.up 16 (tA_cpy (tX_23 hT) (tX_16 hT))) (fr_st hF (by decide) (by decide)) (Nat.le_of_ble_eq_true rfl) (Nat.le_of_ble_eq_true rfl) dX0_become_123 (fun C_19 H locs e_20 hT hF hP hD hS => ?_)
  have t_21 := hT
  refine lv_aload_n hx hb dX0_become_126 rfl (lv_at hl 0 rfl) ?_
  refine lv_aload_n hx hb dX0_become_127 rfl (lv_at hl 1 rfl) ?_
  refine va_get (D := D) (ci := 0) (v := .int (gi (C 2) 7)) (C := RX0) (T := TX0) (N := 8) hx hb htg ig_0 hown hK hP 2 (oh_wg (by decide) (sX_2 hT)) rfl 7 (by decide) (htg _ q_113) (fun _ h9 => h9) (oh_fv (c := C_19 2) (j := 7) rfl (Eq.trans (congrArg (fun z => gi z 7) (th_un e_20 (by decide))) (Eq.trans (congrArg (fun z => gi z 7) (th_un e_17 (by decide))) (Eq.trans (congrArg (fun z => gi z 7) (th_un e_14 (by decide))) (Eq.trans (congrArg (fun z => gi z 7) (th_un e_11 (by decide))) (Eq.trans (congrArg (fun z => gi z 7) (th_un e_8 (by decide))) (Eq.trans (congrArg (fun z => gi z 7) (th_un e_5 (by decide))) (congrArg (fun z => gi z 7) (th_un e_2 (by decide)))))))))) dX0_become_128 ?_
  refine th_put (Tp := TyX a E) (Rl := fr [(1, 2), (10, 17)] [] C) (ci := 0) (v := .int (gi (C 2) 7)) (ty := .boolean) (CC := RX0) (T := TX0) (N := 8) hx hb htg ig_0 tyX0 tyX0_ok nmX0 hown hK hP hD hS 1 (by decide) (sX_1 hT) rfl 7 (by decide) (htg _ q_113) (fun _ h9 => h9) rfl (by decide +kernel) (oh_nb (oh_rgb2 (fX_2_7 hT0))) (oh_fz (oh_rgb2 (fX_2_7 hT0))) (Nat.le_of_ble_eq_true rfl) (hT.up 1 ⟨rfl, (oh_rgb (oh_rgb2 (fX_2_7 hT0)))⟩) (fr_st hF (by decide) (by decide)) dX0_become_131 (fun C_22 H locs e_23 hT hF hP hD hS => ?_)
  have t_24 := hT
  rw [hQ]
  exact W.vret hx hb hr (fun t ht hW => ⟨⟨C_22, rfl, ⟨hT, hF, ⟨(fun A hA => absX_cp hA (cntX' hT0).2 (fun j hj => by rw [(Eq.trans (th_un e_23 (by decide)) (Eq.trans (th_un e_20 (by decide)) (Eq.trans (th_un e_17 (by decide)) (Eq.trans (th_un e_14 (by decide)) (Eq.trans (th_un e_11 (by decide)) (Eq.trans (th_un e_8 (by decide)) (th_un e_5 (by decide)))))))), ga_cpy e_2 (N := 4) (by decide) hj]) (fun j hj => by rw [(Eq.trans (th_un e_23 (by decide)) (th_un e_20 (by decide))), ga_cpy e_17 (N := 3) (by decide) hj, (Eq.trans (th_un e_14 (by decide)) (Eq.trans (th_un e_11 (by decide)) (Eq.trans (th_un e_8 (by decide)) (Eq.trans (th_un e_5 (by decide)) (th_un e_2 (by decide))))))]) (all4 (P := fun t => ∀ q, q < blkN t * wid t → ga (C_22 (10 + 1 + t)) q = ga (C (17 + 1 + t)) q) (fun j hj => by rw [(Eq.trans (th_un e_23 (by decide)) (Eq.trans (th_un e_20 (by decide)) (Eq.trans (th_un e_17 (by decide)) (Eq.trans (th_un e_14 (by decide)) (Eq.trans (th_un e_11 (by decide)) (th_un e_8 (by decide))))))), ga_cpy e_5 (N := 168) (by decide) hj, (th_un e_2 (by decide))]) (fun j hj => by rw [(Eq.trans (th_un e_23 (by decide)) (Eq.trans (th_un e_20 (by decide)) (Eq.trans (th_un e_17 (by decide)) (Eq.trans (th_un e_14 (by decide)) (th_un e_11 (by decide)))))), ga_cpy e_8 (N := 160) (by decide) hj, (Eq.trans (th_un e_5 (by decide)) (th_un e_2 (by decide)))]) (fun j hj => by rw [(Eq.trans (th_un e_23 (by decide)) (Eq.trans (th_un e_20 (by decide)) (Eq.trans (th_un e_17 (by decide)) (th_un e_14 (by decide))))), ga_cpy e_11 (N := 15) (by decide) hj, (Eq.trans (th_un e_8 (by decide)) (Eq.trans (th_un e_5 (by decide)) (th_un e_2 (by decide))))]) (fun j hj => by rw [(Eq.trans (th_un e_23 (by decide)) (Eq.trans (th_un e_20 (by decide)) (th_un e_17 (by decide)))), ga_cpy e_14 (N := 10) (by decide) hj, (Eq.trans (th_un e_11 (by decide)) (Eq.trans (th_un e_8 (by decide)) (Eq.trans (th_un e_5 (by decide)) (th_un e_2 (by decide)))))]))), (fun T hT => tx_cp hT (show gi (C_22 1) 7 = (gi (C 2) 7) by rw [e_23]; rfl) (fun j hj => by rw [(th_un e_23 (by decide)), ga_cpy e_20 (N := 7) (by decide) hj, (Eq.trans (th_un e_17 (by decide)) (Eq.trans (th_un e_14 (by decide)) (Eq.trans (th_un e_11 (by decide)) (Eq.trans (th_un e_8 (by decide)) (Eq.trans (th_un e_5 (by decide)) (th_un e_2 (by decide)))))))]))⟩⟩, ⟨by rw [ht]; exact hP, hD⟩⟩, hS.F ht⟩) hS.2.2 dX0_become_134

set_option maxHeartbeats 4000000 in
set_option maxRecDepth 100000 in
theorem e2_X0_become_i (l : Launch) (D : va_G) (E : Nat → ClassId) (G : Nat → Nat) (sz : Nat) (a : Nat → Nat) (C : Nat → va_E) (hT : TyX a E C) : Met l yX0_become (oh_w yX0_become cX0_become 2 none) ({ frames := 1, cells := 0, slots := 0, locals := 18 }) (oh_Pm D E G [.ref (a 2), .ref (a 1)] (oh_W 35 a C) sz) (va_Qv (fun (u : Nat → va_E) => TyX a E u ∧ fr [(2, 3), (17, 24)] [] C u ∧ (∀ A : LA, absX 10 C A → absX 17 u A) ∧ (∀ T : TP, absTX 1 16 C T → absTX 2 23 u T)) (oh_B D (va_A (oh_W 35 a C) sz) (fun u => oh_W 35 a u)) (va_A (oh_W 35 a C) sz)) 0 0 (va_A (oh_W 35 a C) sz) := by
  refine Met.ofW (cc := cX0_become) (maxL := 2) (ret := none) (by decide) rfl ?_
  intro p e s m args below meth c s₁ B hml hv
  obtain ⟨rfl, hsz, hP, hK, hD0, hG⟩ := hv
  have hx := B.exec
  have hb := B.bytes
  have hr := B.returns
  have hts := atoms_spec (ws := (oh_w yX0_become cX0_become 2 none)) B.pre
  have htg : ∀ w ∈ oh_t, w.before _ s = true := fun w h => hts w (List.mem_cons_of_mem _ h)
  have hown : s.vm.findClass RX0 = some m.cls := findClass_of_methodNamed B.named
  have hlocks := B.notSynchronized
  have hT0 := hT
  subst hsz
  have hD := hD0.self (sz := s.heap.size)
  generalize hAe : va_A (oh_W 35 a C) s.heap.size = A at hD hG ⊢
  have hA : ∀ q : Nat, s.heap.size ≤ q → A q := fun q h => by rw [← hAe]; exact Or.inr h
  have hS : va_S A s.heap s.heap [] := va_S.rf
  have hF : fr [(2, 3), (17, 24)] [] C C := fr_rf
  have hl := lv_entry ([.ref (a 2), .ref (a 1)]) (n := 2) (Nat.le_of_ble_eq_true rfl)
  rw [lg_entry_eq]
  generalize (lg_sl ([.ref (a 2), .ref (a 1)]) ++ List.replicate (2 - (lg_sl ([.ref (a 2), .ref (a 1)])).length) Slot.unset).toArray = ls at hl ⊢
  have hl : lv_has ls 2 [(0, .ref (a 2)), (1, .ref (a 1))] := hl
  refine oh_genQ (fun Q hQ => ?_)
  refine lv_aload_n hx hb dX0_become_0 rfl (lv_at hl 1 rfl) ?_
  refine va_get (D := D) (ci := 0) (v := .ref (a 10)) (C := RX0) (T := TX0) (N := 8) hx hb htg ig_0 hown hK hP 1 (oh_wg (by decide) (sX_1 hT)) rfl 0 (by decide) (htg _ q_97) (fun _ h9 => h9) rfl dX0_become_1 ?_
  refine lv_iconst (v := 0) hx hb dX0_become_4 (by decide) ?_
  refine lv_aload_n hx hb dX0_become_5 rfl (lv_at hl 0 rfl) ?_
  refine va_get (D := D) (ci := 0) (v := .ref (a 17)) (C := RX0) (T := TX0) (N := 8) hx hb htg ig_0 hown hK hP 2 (oh_wg (by decide) (sX_2 hT)) rfl 0 (by decide) (htg _ q_97) (fun _ h9 => h9) rfl dX0_become_6 ?_
  refine lv_iconst (v := 0) hx hb dX0_become_9 (by decide) ?_
  refine lv_aload_n hx hb dX0_become_10 rfl (lv_at hl 0 rfl) ?_
  refine va_get (D := D) (ci := 0) (v := .ref (a 17)) (C := RX0) (T := TX0) (N := 8) hx hb htg ig_0 hown hK hP 2 (oh_wg (by decide) (sX_2 hT)) rfl 0 (by decide) (htg _ q_97) (fun _ h9 => h9) rfl dX0_become_11 ?_
  refine va_alen (v := 4) hx hb hK hP 17 0 (oh_wg (by decide) (sX_17 hT)) rfl (show Int32.ofNat 4 = 4 by decide) dX0_become_14 ?_
  refine th_copyi (T := TyX a E) (Rl := fr [(2, 3), (17, 24)] [] C) hx hb (by rw [hml]; exact hl.1.symm) hown (htg _ q_941) (htg _ q_347) (htg _ q_346) (htg _ q_74) hK hP hD hS 10 17 (by decide) (by decide) (sX_10 hT) (sX_17 hT) (by decide) (by decide) (by decide) (by decide) (by decide) (hT.up 17 (tA_cpy (tX_10 hT) (tX_17 hT))) (fr_st hF (by decide) (by decide)) (Nat.le_of_ble_eq_true rfl) (Nat.le_of_ble_eq_true rfl) dX0_become_15 (fun C_1 H locs e_2 hT hF hP hD hS => ?_)
  have t_3 := hT
  refine lv_aload_n hx hb dX0_become_18 rfl (lv_at hl 1 rfl) ?_
  refine va_get (D := D) (ci := 0) (v := .ref (a 11)) (C := RX0) (T := TX0) (N := 8) hx hb htg ig_0 hown hK hP 1 (oh_wg (by decide) (sX_1 hT)) rfl 1 (by decide) (htg _ q_101) (fun _ h9 => h9) rfl dX0_become_19 ?_
  refine lv_iconst (v := 0) hx hb dX0_become_22 (by decide) ?_
  refine lv_aload_n hx hb dX0_become_23 rfl (lv_at hl 0 rfl) ?_
  refine va_get (D := D) (ci := 0) (v := .ref (a 18)) (C := RX0) (T := TX0) (N := 8) hx hb htg ig_0 hown hK hP 2 (oh_wg (by decide) (sX_2 hT)) rfl 1 (by decide) (htg _ q_101) (fun _ h9 => h9) rfl dX0_become_24 ?_
  refine lv_iconst (v := 0) hx hb dX0_become_27 (by decide) ?_
  refine lv_aload_n hx hb dX0_become_28 rfl (lv_at hl 0 rfl) ?_
  refine va_get (D := D) (ci := 0) (v := .ref (a 18)) (C := RX0) (T := TX0) (N := 8) hx hb htg ig_0 hown hK hP 2 (oh_wg (by decide) (sX_2 hT)) rfl 1 (by decide) (htg _ q_101) (fun _ h9 => h9) rfl dX0_become_29 ?_
  refine va_alen (v := 168) hx hb hK hP 18 0 (oh_wg (by decide) (sX_18 hT)) rfl (show Int32.ofNat 168 = 168 by decide) dX0_become_32 ?_
  refine th_copyi (T := TyX a E) (Rl := fr [(2, 3), (17, 24)] [] C) hx hb (by rw [hml]; exact hl.1.symm) hown (htg _ q_941) (htg _ q_347) (htg _ q_346) (htg _ q_74) hK hP hD hS 11 18 (by decide) (by decide) (sX_11 hT) (sX_18 hT) (by decide) (by decide) (by decide) (by decide) (by decide) (hT.up 18 (tA_cpy (tX_11 hT) (tX_18 hT))) (fr_st hF (by decide) (by decide)) (Nat.le_of_ble_eq_true rfl) (Nat.le_of_ble_eq_true rfl) dX0_become_33 (fun C_4 H locs e_5 hT hF hP hD hS => ?_)
  have t_6 := hT
  refine lv_aload_n hx hb dX0_become_36 rfl (lv_at hl 1 rfl) ?_
  refine va_get (D := D) (ci := 0) (v := .ref (a 12)) (C := RX0) (T := TX0) (N := 8) hx hb htg ig_0 hown hK hP 1 (oh_wg (by decide) (sX_1 hT)) rfl 2 (by decide) (htg _ q_103) (fun _ h9 => h9) rfl dX0_become_37 ?_
  refine lv_iconst (v := 0) hx hb dX0_become_40 (by decide) ?_
  refine lv_aload_n hx hb dX0_become_41 rfl (lv_at hl 0 rfl) ?_
  refine va_get (D := D) (ci := 0) (v := .ref (a 19)) (C := RX0) (T := TX0) (N := 8) hx hb htg ig_0 hown hK hP 2 (oh_wg (by decide) (sX_2 hT)) rfl 2 (by decide) (htg _ q_103) (fun _ h9 => h9) rfl dX0_become_42 ?_
  refine lv_iconst (v := 0) hx hb dX0_become_45 (by decide) ?_
  refine lv_aload_n hx hb dX0_become_46 rfl (lv_at hl 0 rfl) ?_
  refine va_get (D := D) (ci := 0) (v := .ref (a 19)) (C := RX0) (T := TX0) (N := 8) hx hb htg ig_0 hown hK hP 2 (oh_wg (by decide) (sX_2 hT)) rfl 2 (by decide) (htg _ q_103) (fun _ h9 => h9) rfl dX0_become_47 ?_
  refine va_alen (v := 160) hx hb hK hP 19 0 (oh_wg (by decide) (sX_19 hT)) rfl (show Int32.ofNat 160 = 160 by decide) dX0_become_50 ?_
  refine th_copyi (T := TyX a E) (Rl := fr [(2, 3), (17, 24)] [] C) hx hb (by rw [hml]; exact hl.1.symm) hown (htg _ q_941) (htg _ q_347) (htg _ q_346) (htg _ q_74) hK hP hD hS 12 19 (by decide) (by decide) (sX_12 hT) (sX_19 hT) (by decide) (by decide) (by decide) (by decide) (by decide) (hT.up 19 (tA_cpy (tX_12 hT) (tX_19 hT))) (fr_st hF (by decide) (by decide)) (Nat.le_of_ble_eq_true rfl) (Nat.le_of_ble_eq_true rfl) dX0_become_51 (fun C_7 H locs e_8 hT hF hP hD hS => ?_)
  have t_9 := hT
  refine lv_aload_n hx hb dX0_become_54 rfl (lv_at hl 1 rfl) ?_
  refine va_get (D := D) (ci := 0) (v := .ref (a 13)) (C := RX0) (T := TX0) (N := 8) hx hb htg ig_0 hown hK hP 1 (oh_wg (by decide) (sX_1 hT)) rfl 3 (by decide) (htg _ q_104) (fun _ h9 => h9) rfl dX0_become_55 ?_
  refine lv_iconst (v := 0) hx hb dX0_become_58 (by decide) ?_
  refine lv_aload_n hx hb dX0_become_59 rfl (lv_at hl 0 rfl) ?_
  refine va_get (D := D) (ci := 0) (v := .ref (a 20)) (C := RX0) (T := TX0) (N := 8) hx hb htg ig_0 hown hK hP 2 (oh_wg (by decide) (sX_2 hT)) rfl 3 (by decide) (htg _ q_104) (fun _ h9 => h9) rfl dX0_become_60 ?_
  refine lv_iconst (v := 0) hx hb dX0_become_63 (by decide) ?_
  refine lv_aload_n hx hb dX0_become_64 rfl (lv_at hl 0 rfl) ?_
  refine va_get (D := D) (ci := 0) (v := .ref (a 20)) (C := RX0) (T := TX0) (N := 8) hx hb htg ig_0 hown hK hP 2 (oh_wg (by decide) (sX_2 hT)) rfl 3 (by decide) (htg _ q_104) (fun _ h9 => h9) rfl dX0_become_65 ?_
  refine va_alen (v := 15) hx hb hK hP 20 0 (oh_wg (by decide) (sX_20 hT)) rfl (show Int32.ofNat 15 = 15 by decide) dX0_become_68 ?_
  refine th_copyi (T := TyX a E) (Rl := fr [(2, 3), (17, 24)] [] C) hx hb (by rw [hml]; exact hl.1.symm) hown (htg _ q_941) (htg _ q_347) (htg _ q_346) (htg _ q_74) hK hP hD hS 13 20 (by decide) (by decide) (sX_13 hT) (sX_20 hT) (by decide) (by decide) (by decide) (by decide) (by decide) (hT.up 20 (tA_cpy (tX_13 hT) (tX_20 hT))) (fr_st hF (by decide) (by decide)) (Nat.le_of_ble_eq_true rfl) (Nat.le_of_ble_eq_true rfl) dX0_become_69 (fun C_10 H locs e_11 hT hF hP hD hS => ?_)
  have t_12 := hT
  refine lv_aload_n hx hb dX0_become_72 rfl (lv_at hl 1 rfl) ?_
  refine va_get (D := D) (ci := 0) (v := .ref (a 14)) (C := RX0) (T := TX0) (N := 8) hx hb htg ig_0 hown hK hP 1 (oh_wg (by decide) (sX_1 hT)) rfl 4 (by decide) (htg _ q_105) (fun _ h9 => h9) rfl dX0_become_73 ?_
  refine lv_iconst (v := 0) hx hb dX0_become_76 (by decide) ?_
  refine lv_aload_n hx hb dX0_become_77 rfl (lv_at hl 0 rfl) ?_
  refine va_get (D := D) (ci := 0) (v := .ref (a 21)) (C := RX0) (T := TX0) (N := 8) hx hb htg ig_0 hown hK hP 2 (oh_wg (by decide) (sX_2 hT)) rfl 4 (by decide) (htg _ q_105) (fun _ h9 => h9) rfl dX0_become_78 ?_
  refine lv_iconst (v := 0) hx hb dX0_become_81 (by decide) ?_
  refine lv_aload_n hx hb dX0_become_82 rfl (lv_at hl 0 rfl) ?_
  refine va_get (D := D) (ci := 0) (v := .ref (a 21)) (C := RX0) (T := TX0) (N := 8) hx hb htg ig_0 hown hK hP 2 (oh_wg (by decide) (sX_2 hT)) rfl 4 (by decide) (htg _ q_105) (fun _ h9 => h9) rfl dX0_become_83 ?_
  refine va_alen (v := 10) hx hb hK hP 21 0 (oh_wg (by decide) (sX_21 hT)) rfl (show Int32.ofNat 10 = 10 by decide) dX0_become_86 ?_
  refine th_copyi (T := TyX a E) (Rl := fr [(2, 3), (17, 24)] [] C) hx hb (by rw [hml]; exact hl.1.symm) hown (htg _ q_941) (htg _ q_347) (htg _ q_346) (htg _ q_74) hK hP hD hS 14 21 (by decide) (by decide) (sX_14 hT) (sX_21 hT) (by decide) (by decide) (by decide) (by decide) (by decide) (hT.up 21 (tA_cpy (tX_14 hT) (tX_21 hT))) (fr_st hF (by decide) (by decide)) (Nat.le_of_ble_eq_true rfl) (Nat.le_of_ble_eq_true rfl) dX0_become_87 (fun C_13 H locs e_14 hT hF hP hD hS => ?_)
  have t_15 := hT
  refine lv_aload_n hx hb dX0_become_90 rfl (lv_at hl 1 rfl) ?_
  refine va_get (D := D) (ci := 0) (v := .ref (a 15)) (C := RX0) (T := TX0) (N := 8) hx hb htg ig_0 hown hK hP 1 (oh_wg (by decide) (sX_1 hT)) rfl 5 (by decide) (htg _ q_106) (fun _ h9 => h9) rfl dX0_become_91 ?_
  refine lv_iconst (v := 0) hx hb dX0_become_94 (by decide) ?_
  refine lv_aload_n hx hb dX0_become_95 rfl (lv_at hl 0 rfl) ?_
  refine va_get (D := D) (ci := 0) (v := .ref (a 22)) (C := RX0) (T := TX0) (N := 8) hx hb htg ig_0 hown hK hP 2 (oh_wg (by decide) (sX_2 hT)) rfl 5 (by decide) (htg _ q_106) (fun _ h9 => h9) rfl dX0_become_96 ?_
  refine lv_iconst (v := 0) hx hb dX0_become_99 (by decide) ?_
  refine lv_aload_n hx hb dX0_become_100 rfl (lv_at hl 0 rfl) ?_
  refine va_get (D := D) (ci := 0) (v := .ref (a 22)) (C := RX0) (T := TX0) (N := 8) hx hb htg ig_0 hown hK hP 2 (oh_wg (by decide) (sX_2 hT)) rfl 5 (by decide) (htg _ q_106) (fun _ h9 => h9) rfl dX0_become_101 ?_
  refine va_alen (v := 3) hx hb hK hP 22 0 (oh_wg (by decide) (sX_22 hT)) rfl (show Int32.ofNat 3 = 3 by decide) dX0_become_104 ?_
  refine th_copyi (T := TyX a E) (Rl := fr [(2, 3), (17, 24)] [] C) hx hb (by rw [hml]; exact hl.1.symm) hown (htg _ q_941) (htg _ q_347) (htg _ q_346) (htg _ q_74) hK hP hD hS 15 22 (by decide) (by decide) (sX_15 hT) (sX_22 hT) (by decide) (by decide) (by decide) (by decide) (by decide) (hT.up 22 (tA_cpy (tX_15 hT) (tX_22 hT))) (fr_st hF (by decide) (by decide)) (Nat.le_of_ble_eq_true rfl) (Nat.le_of_ble_eq_true rfl) dX0_become_105 (fun C_16 H locs e_17 hT hF hP hD hS => ?_)
  have t_18 := hT
  refine lv_aload_n hx hb dX0_become_108 rfl (lv_at hl 1 rfl) ?_
  refine va_get (D := D) (ci := 0) (v := .ref (a 16)) (C := RX0) (T := TX0) (N := 8) hx hb htg ig_0 hown hK hP 1 (oh_wg (by decide) (sX_1 hT)) rfl 6 (by decide) (htg _ q_111) (fun _ h9 => h9) rfl dX0_become_109 ?_
  refine lv_iconst (v := 0) hx hb dX0_become_112 (by decide) ?_
  refine lv_aload_n hx hb dX0_become_113 rfl (lv_at hl 0 rfl) ?_
  refine va_get (D := D) (ci := 0) (v := .ref (a 23)) (C := RX0) (T := TX0) (N := 8) hx hb htg ig_0 hown hK hP 2 (oh_wg (by decide) (sX_2 hT)) rfl 6 (by decide) (htg _ q_111) (fun _ h9 => h9) rfl dX0_become_114 ?_
  refine lv_iconst (v := 0) hx hb dX0_become_117 (by decide) ?_
  refine lv_aload_n hx hb dX0_become_118 rfl (lv_at hl 0 rfl) ?_
  refine va_get (D := D) (ci := 0) (v := .ref (a 23)) (C := RX0) (T := TX0) (N := 8) hx hb htg ig_0 hown hK hP 2 (oh_wg (by decide) (sX_2 hT)) rfl 6 (by decide) (htg _ q_111) (fun _ h9 => h9) rfl dX0_become_119 ?_
  refine va_alen (v := 7) hx hb hK hP 23 0 (oh_wg (by decide) (sX_23 hT)) rfl (show Int32.ofNat 7 = 7 by decide) dX0_become_122 ?_
  refine th_copyi (T := TyX a E) (Rl := fr [(2, 3), (17, 24)] [] C) hx hb (by rw [hml]; exact hl.1.symm) hown (htg _ q_941) (htg _ q_347) (htg _ q_346) (htg _ q_74) hK hP hD hS 16 23 (by decide) (by decide) (sX_16 hT) (sX_23 hT) (by decide) (by decide) (by decide) (by decide) (by decide) (hT.up 23 (tA_cpy (tX_16 hT) (tX_23 hT))) (fr_st hF (by decide) (by decide)) (Nat.le_of_ble_eq_true rfl) (Nat.le_of_ble_eq_true rfl) dX0_become_123 (fun C_19 H locs e_20 hT hF hP hD hS => ?_)
  have t_21 := hT
  refine lv_aload_n hx hb dX0_become_126 rfl (lv_at hl 0 rfl) ?_
  refine lv_aload_n hx hb dX0_become_127 rfl (lv_at hl 1 rfl) ?_
  refine va_get (D := D) (ci := 0) (v := .int (gi (C 1) 7)) (C := RX0) (T := TX0) (N := 8) hx hb htg ig_0 hown hK hP 1 (oh_wg (by decide) (sX_1 hT)) rfl 7 (by decide) (htg _ q_113) (fun _ h9 => h9) (oh_fv (c := C_19 1) (j := 7) rfl (Eq.trans (congrArg (fun z => gi z 7) (th_un e_20 (by decide))) (Eq.trans (congrArg (fun z => gi z 7) (th_un e_17 (by decide))) (Eq.trans (congrArg (fun z => gi z 7) (th_un e_14 (by decide))) (Eq.trans (congrArg (fun z => gi z 7) (th_un e_11 (by decide))) (Eq.trans (congrArg (fun z => gi z 7) (th_un e_8 (by decide))) (Eq.trans (congrArg (fun z => gi z 7) (th_un e_5 (by decide))) (congrArg (fun z => gi z 7) (th_un e_2 (by decide)))))))))) dX0_become_128 ?_
  refine th_put (Tp := TyX a E) (Rl := fr [(2, 3), (17, 24)] [] C) (ci := 0) (v := .int (gi (C 1) 7)) (ty := .boolean) (CC := RX0) (T := TX0) (N := 8) hx hb htg ig_0 tyX0 tyX0_ok nmX0 hown hK hP hD hS 2 (by decide) (sX_2 hT) rfl 7 (by decide) (htg _ q_113) (fun _ h9 => h9) rfl (by decide +kernel) (oh_nb (oh_rgb2 (fX_1_7 hT0))) (oh_fz (oh_rgb2 (fX_1_7 hT0))) (Nat.le_of_ble_eq_true rfl) (hT.up 2 ⟨rfl, (oh_rgb (oh_rgb2 (fX_1_7 hT0)))⟩) (fr_st hF (by decide) (by decide)) dX0_become_131 (fun C_22 H locs e_23 hT hF hP hD hS => ?_)
  have t_24 := hT
  rw [hQ]
  exact W.vret hx hb hr (fun t ht hW => ⟨⟨C_22, rfl, ⟨hT, hF, ⟨(fun A hA => absX_cp hA (cntX' hT0).1 (fun j hj => by rw [(Eq.trans (th_un e_23 (by decide)) (Eq.trans (th_un e_20 (by decide)) (Eq.trans (th_un e_17 (by decide)) (Eq.trans (th_un e_14 (by decide)) (Eq.trans (th_un e_11 (by decide)) (Eq.trans (th_un e_8 (by decide)) (th_un e_5 (by decide)))))))), ga_cpy e_2 (N := 4) (by decide) hj]) (fun j hj => by rw [(Eq.trans (th_un e_23 (by decide)) (th_un e_20 (by decide))), ga_cpy e_17 (N := 3) (by decide) hj, (Eq.trans (th_un e_14 (by decide)) (Eq.trans (th_un e_11 (by decide)) (Eq.trans (th_un e_8 (by decide)) (Eq.trans (th_un e_5 (by decide)) (th_un e_2 (by decide))))))]) (all4 (P := fun t => ∀ q, q < blkN t * wid t → ga (C_22 (17 + 1 + t)) q = ga (C (10 + 1 + t)) q) (fun j hj => by rw [(Eq.trans (th_un e_23 (by decide)) (Eq.trans (th_un e_20 (by decide)) (Eq.trans (th_un e_17 (by decide)) (Eq.trans (th_un e_14 (by decide)) (Eq.trans (th_un e_11 (by decide)) (th_un e_8 (by decide))))))), ga_cpy e_5 (N := 168) (by decide) hj, (th_un e_2 (by decide))]) (fun j hj => by rw [(Eq.trans (th_un e_23 (by decide)) (Eq.trans (th_un e_20 (by decide)) (Eq.trans (th_un e_17 (by decide)) (Eq.trans (th_un e_14 (by decide)) (th_un e_11 (by decide)))))), ga_cpy e_8 (N := 160) (by decide) hj, (Eq.trans (th_un e_5 (by decide)) (th_un e_2 (by decide)))]) (fun j hj => by rw [(Eq.trans (th_un e_23 (by decide)) (Eq.trans (th_un e_20 (by decide)) (Eq.trans (th_un e_17 (by decide)) (th_un e_14 (by decide))))), ga_cpy e_11 (N := 15) (by decide) hj, (Eq.trans (th_un e_8 (by decide)) (Eq.trans (th_un e_5 (by decide)) (th_un e_2 (by decide))))]) (fun j hj => by rw [(Eq.trans (th_un e_23 (by decide)) (Eq.trans (th_un e_20 (by decide)) (th_un e_17 (by decide)))), ga_cpy e_14 (N := 10) (by decide) hj, (Eq.trans (th_un e_11 (by decide)) (Eq.trans (th_un e_8 (by decide)) (Eq.trans (th_un e_5 (by decide)) (th_un e_2 (by decide)))))]))), (fun T hT => tx_cp hT (show gi (C_22 2) 7 = (gi (C 1) 7) by rw [e_23]; rfl) (fun j hj => by rw [(th_un e_23 (by decide)), ga_cpy e_20 (N := 7) (by decide) hj, (Eq.trans (th_un e_17 (by decide)) (Eq.trans (th_un e_14 (by decide)) (Eq.trans (th_un e_11 (by decide)) (Eq.trans (th_un e_8 (by decide)) (Eq.trans (th_un e_5 (by decide)) (th_un e_2 (by decide)))))))]))⟩⟩, ⟨by rw [ht]; exact hP, hD⟩⟩, hS.F ht⟩) hS.2.2 dX0_become_134

set_option maxHeartbeats 4000000 in
set_option maxRecDepth 100000 in
theorem e2_X6_image (l : Launch) (D : va_G) (E : Nat → ClassId) (G : Nat → Nat) (sz : Nat) (a : Nat → Nat) (C : Nat → va_E) (hT : TyX a E C) : Met l yX6_image (oh_w yX6_image cX6_image 1 (some .int)) ({ frames := 2, cells := 0, slots := 0, locals := 39 }) (oh_Pm D E G [.ref (a 0)] (oh_W 35 a C) sz) (va_Qi (fun r (u : Nat → va_E) => TyX a E u ∧ fr [(2, 3), (17, 24)] [2] C u ∧ ((r = 1) ∧ (gi (u 0) 2 = 1)) ∧ (∀ A : LA, absX 10 C A → absX 17 u A) ∧ (∀ T : TP, absTX 1 16 C T → absTX 2 23 u T)) (oh_B D (va_A (oh_W 35 a C) sz) (fun u => oh_W 35 a u)) (va_A (oh_W 35 a C) sz)) 0 0 (va_A (oh_W 35 a C) sz) := by
  refine Met.ofW (cc := cX6_image) (maxL := 1) (ret := (some .int)) (by decide) rfl ?_
  intro p e s m args below meth c s₁ B hml hv
  obtain ⟨rfl, hsz, hP, hK, hD0, hG⟩ := hv
  have hx := B.exec
  have hb := B.bytes
  have hr := B.returns
  have hts := atoms_spec (ws := (oh_w yX6_image cX6_image 1 (some .int))) B.pre
  have htg : ∀ w ∈ oh_t, w.before _ s = true := fun w h => hts w (List.mem_cons_of_mem _ h)
  have hown : s.vm.findClass RX6 = some m.cls := findClass_of_methodNamed B.named
  have hlocks := B.notSynchronized
  have hT0 := hT
  subst hsz
  have hD := hD0.self (sz := s.heap.size)
  generalize hAe : va_A (oh_W 35 a C) s.heap.size = A at hD hG ⊢
  have hA : ∀ q : Nat, s.heap.size ≤ q → A q := fun q h => by rw [← hAe]; exact Or.inr h
  have hS : va_S A s.heap s.heap [] := va_S.rf
  have hF : fr [(2, 3), (17, 24)] [2] C C := fr_rf
  have hl := lv_entry ([.ref (a 0)]) (n := 1) (Nat.le_of_ble_eq_true rfl)
  rw [lg_entry_eq]
  generalize (lg_sl ([.ref (a 0)]) ++ List.replicate (1 - (lg_sl ([.ref (a 0)])).length) Slot.unset).toArray = ls at hl ⊢
  have hl : lv_has ls 1 [(0, .ref (a 0))] := hl
  refine oh_genQ (fun Q hQ => ?_)
  refine lv_aload_n hx hb dX6_image_0 rfl (lv_at hl 0 rfl) ?_
  refine va_get (D := D) (ci := 6) (v := .ref (a 2)) (C := RX6) (T := TX6) (N := 9) hx hb htg ig_6 hown hK hP 0 (oh_wg (by decide) (sX_0 hT)) rfl 1 (by decide) (htg _ q_259) (fun _ h9 => h9) rfl dX6_image_1 ?_
  refine lv_aload_n hx hb dX6_image_4 rfl (lv_at hl 0 rfl) ?_
  refine va_get (D := D) (ci := 6) (v := .ref (a 1)) (C := RX6) (T := TX6) (N := 9) hx hb htg ig_6 hown hK hP 0 (oh_wg (by decide) (sX_0 hT)) rfl 0 (by decide) (htg _ q_258) (fun _ h9 => h9) rfl dX6_image_5 ?_
  refine tm_Vv (As := [.ref (a 1)]) (rest := []) ⟨hx, hb, hml, hown, htg⟩ (e2_X0_become_i l D E G _ a C hT) (cwV 1 htg (oh_gV q_937 q_938 q_939 q_67 q_940) rfl rfl rfl pdVX0_become ⟨Nat.le_of_ble_eq_true rfl, Nat.le_of_ble_eq_true rfl⟩) hK hP hD hG hS hA (va_recv hK hP (ci := 0) (q0 := 2) rfl (oh_wg (by decide) (sX_2 hT))) rfl hl.1 rfl (Nat.le_of_ble_eq_true rfl) dX6_image_8 ⟨Nat.le_of_ble_eq_true rfl, Nat.le_of_ble_eq_true rfl⟩ (fun C_2 H locs hq_3 hP hD hS => ?_)
  obtain ⟨hT, f_4, hq_3⟩ := hq_3
  have hF := fr_tr hF f_4 (by decide) (by decide)
  refine W.widen (k := 0) (n := 0) (Nat.le_refl _) (Nat.le_refl _) ?_
  have t_5 := hT
  refine lv_aload_n hx hb dX6_image_11 rfl (lv_at hl 0 rfl) ?_
  refine lv_iconst (v := 1) hx hb dX6_image_12 (by decide) ?_
  refine th_put (Tp := TyX a E) (Rl := fr [(2, 3), (17, 24)] [2] C) (ci := 6) (v := .int 1) (ty := .boolean) (CC := RX6) (T := TX6) (N := 9) hx hb htg ig_6 tyX6 tyX6_ok nmX6 hown hK hP hD hS 0 (by decide) (sX_0 hT) rfl 2 (by decide) (htg _ q_260) (fun _ h9 => h9) rfl (by decide +kernel) (by decide) (by decide) (Nat.le_of_ble_eq_true rfl) (hT.up 0 ⟨rfl, (rg_w (rg_c (v := 1) (lo := 1) (hi := 1) (by decide)) (by decide))⟩) (fr_fd hF (sX_0 hT) (by decide)) dX6_image_13 (fun C_6 H locs e_7 hT hF hP hD hS => ?_)
  have t_8 := hT
  refine lv_iconst (v := 1) hx hb dX6_image_16 (by decide) ?_
  rw [hQ]
  exact W.iret (v := 1) hx hb hr (fun t ht hW => ⟨⟨1, C_6, rfl, ⟨hT, hF, ⟨⟨rfl, (show gi (C_6 0) 2 = (1 : Int32) by rw [e_7]; rfl)⟩, (fun A hA => (absX_eq (hq_3.1 A hA) (fun k k1 k2 => th_un e_7 (by omega)))), (fun T hT => (absTX_eq (hq_3.2 T hT) (congrArg (fun z => gi z 7) (th_un e_7 (by decide))) (th_un e_7 (by decide))))⟩⟩, ⟨by rw [ht]; exact hP, hD⟩⟩, hS.F ht⟩) hS.2.2 dX6_image_17

set_option maxHeartbeats 4000000 in
set_option maxRecDepth 100000 in
theorem e3_X6_back (l : Launch) (D : va_G) (E : Nat → ClassId) (G : Nat → Nat) (sz : Nat) (a : Nat → Nat) (C : Nat → va_E) (hT : TyX a E C) : Met l yX6_back (oh_w yX6_back cX6_back 1 (some .int)) ({ frames := 2, cells := 0, slots := 0, locals := 44 }) (oh_Pm D E G [.ref (a 0)] (oh_W 35 a C) sz) (va_Qi (fun r (u : Nat → va_E) => TyX a E u ∧ fr [(1, 2), (7, 8), (10, 17), (29, 31)] [] C u ∧ (r = (if gi (C 0) 2 = 0 then (-5) else 1 : Int32)) ∧ ((r = 1 → ∀ A : LA, absX 17 C A → absX 10 u A) ∧ (¬ r = 1 → ∀ k, 10 ≤ k → k ≤ 15 → u k = C k)) ∧ ((r = 1 → ∀ T : TP, absTX 2 23 C T → absTX 1 16 u T) ∧ (¬ r = 1 → ∀ T : TP, absTX 1 16 C T → absTX 1 16 u T))) (oh_B D (va_A (oh_W 35 a C) sz) (fun u => oh_W 35 a u)) (va_A (oh_W 35 a C) sz)) 0 0 (va_A (oh_W 35 a C) sz) := by
  refine Met.ofW (cc := cX6_back) (maxL := 1) (ret := (some .int)) (by decide) rfl ?_
  intro p e s m args below meth c s₁ B hml hv
  obtain ⟨rfl, hsz, hP, hK, hD0, hG⟩ := hv
  have hx := B.exec
  have hb := B.bytes
  have hr := B.returns
  have hts := atoms_spec (ws := (oh_w yX6_back cX6_back 1 (some .int))) B.pre
  have htg : ∀ w ∈ oh_t, w.before _ s = true := fun w h => hts w (List.mem_cons_of_mem _ h)
  have hown : s.vm.findClass RX6 = some m.cls := findClass_of_methodNamed B.named
  have hlocks := B.notSynchronized
  have hT0 := hT
  subst hsz
  have hD := hD0.self (sz := s.heap.size)
  generalize hAe : va_A (oh_W 35 a C) s.heap.size = A at hD hG ⊢
  have hA : ∀ q : Nat, s.heap.size ≤ q → A q := fun q h => by rw [← hAe]; exact Or.inr h
  have hS : va_S A s.heap s.heap [] := va_S.rf
  have hF : fr [(1, 2), (7, 8), (10, 17), (29, 31)] [] C C := fr_rf
  have hl := lv_entry ([.ref (a 0)]) (n := 1) (Nat.le_of_ble_eq_true rfl)
  rw [lg_entry_eq]
  generalize (lg_sl ([.ref (a 0)]) ++ List.replicate (1 - (lg_sl ([.ref (a 0)])).length) Slot.unset).toArray = ls at hl ⊢
  have hl : lv_has ls 1 [(0, .ref (a 0))] := hl
  refine oh_genQ (fun Q hQ => ?_)
  refine lv_aload_n hx hb dX6_back_0 rfl (lv_at hl 0 rfl) ?_
  refine va_get (D := D) (ci := 6) (v := .int (gi (C 0) 2)) (C := RX6) (T := TX6) (N := 9) hx hb htg ig_6 hown hK hP 0 (oh_wg (by decide) (sX_0 hT)) rfl 2 (by decide) (htg _ q_260) (fun _ h9 => h9) rfl dX6_back_1 ?_
  refine lv_if_ne (tgt := 14) hx hb dX6_back_4 (by decide) (fun (c_1 : ¬ ((gi (C 0) 2) = 0)) => ?_) (fun (c_1 : (gi (C 0) 2) = 0) => ?_)
  · refine lv_aload_n hx hb dX6_back_14 rfl (lv_at hl 0 rfl) ?_
    refine va_get (D := D) (ci := 6) (v := .ref (a 1)) (C := RX6) (T := TX6) (N := 9) hx hb htg ig_6 hown hK hP 0 (oh_wg (by decide) (sX_0 hT)) rfl 0 (by decide) (htg _ q_258) (fun _ h9 => h9) rfl dX6_back_15 ?_
    refine lv_aload_n hx hb dX6_back_18 rfl (lv_at hl 0 rfl) ?_
    refine va_get (D := D) (ci := 6) (v := .ref (a 2)) (C := RX6) (T := TX6) (N := 9) hx hb htg ig_6 hown hK hP 0 (oh_wg (by decide) (sX_0 hT)) rfl 1 (by decide) (htg _ q_259) (fun _ h9 => h9) rfl dX6_back_19 ?_
    refine tm_Vv (As := [.ref (a 2)]) (rest := []) ⟨hx, hb, hml, hown, htg⟩ (e2_X0_become_b l D E G _ a C hT) (cwV 1 htg (oh_gV q_937 q_938 q_939 q_67 q_940) rfl rfl rfl pdVX0_become ⟨Nat.le_of_ble_eq_true rfl, Nat.le_of_ble_eq_true rfl⟩) hK hP hD hG hS hA (va_recv hK hP (ci := 0) (q0 := 1) rfl (oh_wg (by decide) (sX_1 hT))) rfl hl.1 rfl (Nat.le_of_ble_eq_true rfl) dX6_back_22 ⟨Nat.le_of_ble_eq_true rfl, Nat.le_of_ble_eq_true rfl⟩ (fun C_3 H locs hq_4 hP hD hS => ?_)
    obtain ⟨hT, f_5, hq_4⟩ := hq_4
    have hF := fr_tr hF f_5 (by decide) (by decide)
    refine W.widen (k := 0) (n := 0) (Nat.le_refl _) (Nat.le_refl _) ?_
    have t_6 := hT
    refine lv_aload_n hx hb dX6_back_25 rfl (lv_at hl 0 rfl) ?_
    refine va_get (D := D) (ci := 6) (v := .ref (a 4)) (C := RX6) (T := TX6) (N := 9) hx hb htg ig_6 hown hK hP 0 (oh_wg (by decide) (sX_0 hT)) rfl 4 (by decide) (htg _ q_262) (fun _ h9 => h9) rfl dX6_back_26 ?_
    refine lv_aload_n hx hb dX6_back_29 rfl (lv_at hl 0 rfl) ?_
    refine va_get (D := D) (ci := 6) (v := .ref (a 1)) (C := RX6) (T := TX6) (N := 9) hx hb htg ig_6 hown hK hP 0 (oh_wg (by decide) (sX_0 hT)) rfl 0 (by decide) (htg _ q_258) (fun _ h9 => h9) rfl dX6_back_30 ?_
    refine va_get (D := D) (ci := 0) (v := .ref (a 10)) (C := RX0) (T := TX0) (N := 8) hx hb htg ig_0 hown hK hP 1 (oh_wg (by decide) (sX_1 hT)) rfl 0 (by decide) (htg _ q_100) (fun _ h9 => h9) rfl dX6_back_33 ?_
    refine lv_iconst (v := 1) hx hb dX6_back_36 (by decide) ?_
    refine th_iald hx hb hK hP 10 (by decide) (sX_10 hT) (rg_in (rg_c (v := 1) (lo := 1) (hi := 1) (by decide)) (by decide)) dX6_back_37 ?_
    refine tm_Vv (As := [.int (ga (C_3 10) ((1 : Int32)).toNatClampNeg)]) (rest := []) ⟨hx, hb, hml, hown, htg⟩ (c_X3_dropBridgesFrom l D E G _ a C_3 hT (ga (C_3 10) ((1 : Int32)).toNatClampNeg)) (cwV 1 htg (oh_gV q_946 q_947 q_948 q_70 q_949) rfl rfl rfl pdVX3_dropBridgesFrom ⟨Nat.le_of_ble_eq_true rfl, Nat.le_of_ble_eq_true rfl⟩) hK hP hD hG hS hA (va_recv hK hP (ci := 3) (q0 := 4) rfl (oh_wg (by decide) (sX_4 hT))) rfl hl.1 rfl (Nat.le_of_ble_eq_true rfl) dX6_back_38 ⟨Nat.le_of_ble_eq_true rfl, Nat.le_of_ble_eq_true rfl⟩ (fun C_8 H locs hq_9 hP hD hS => ?_)
    obtain ⟨hT, f_10, hq_9⟩ := hq_9
    have hF := fr_tr hF f_10 (by decide) (by decide)
    refine W.widen (k := 0) (n := 0) (Nat.le_refl _) (Nat.le_refl _) ?_
    have t_11 := hT
    refine lv_iconst (v := 1) hx hb dX6_back_41 (by decide) ?_
    rw [hQ]
    exact W.iret (v := 1) hx hb hr (fun t ht hW => ⟨⟨1, C_8, rfl, ⟨hT, hF, ⟨(if_neg c_1).symm, ⟨fun _ A hA => (absX_eq (hq_4.1 A hA) (fr_all f_10 10 15 (by decide))), fun h9 => absurd rfl h9⟩, ⟨fun _ T hT => (absTX_eq (hq_4.2 T hT) (congrArg (fun z => gi z 7) (f_10.1 1 rfl (by decide))) (f_10.1 16 rfl (by decide))), fun h9 => absurd rfl h9⟩⟩⟩, ⟨by rw [ht]; exact hP, hD⟩⟩, hS.F ht⟩) hS.2.2 dX6_back_42
  · refine lv_aload_n hx hb dX6_back_7 rfl (lv_at hl 0 rfl) ?_
    refine lv_bipush (v := (-5)) hx hb dX6_back_8 (by decide) ?_
    refine tm_V (As := [.int (-5)]) (rest := []) ⟨hx, hb, hml, hown, htg⟩ (c_X6_refuse l D E G _ a C hT ((-5) : Int32)) (cwV 1 htg (oh_gV q_296 q_298 q_0 q_66 q_299) rfl rfl rfl pdVX6_refuse ⟨Nat.le_of_ble_eq_true rfl, Nat.le_of_ble_eq_true rfl⟩) hK hP hD hG hS hA (va_recv hK hP (ci := 6) (q0 := 0) rfl (oh_wg (by decide) (sX_0 hT))) rfl hl.1 rfl (Nat.le_of_ble_eq_true rfl) dX6_back_10 ⟨Nat.le_of_ble_eq_true rfl, Nat.le_of_ble_eq_true rfl⟩ (fun r_12 C_13 H locs hq_14 hP hD hS => ?_)
    obtain ⟨hT, f_15, hq_14⟩ := hq_14
    have hF := fr_tr hF f_15 (by decide) (by decide)
    refine W.widen (k := 0) (n := 0) (Nat.le_refl _) (Nat.le_refl _) ?_
    have t_16 := hT
    rw [hQ]
    exact W.iret (v := r_12) hx hb hr (fun t ht hW => ⟨⟨r_12, C_13, rfl, ⟨hT, hF, ⟨(Eq.trans hq_14 (if_pos c_1).symm), ⟨fun h9 => absurd (Eq.trans h9.symm hq_14) (by decide), fun _ => (fun k k1 k2 => (fr_all f_15 10 15 (by decide) k k1 k2))⟩, ⟨fun h9 => absurd (Eq.trans h9.symm hq_14) (by decide), fun _ T hT => (absTX_eq hT (congrArg (fun z => gi z 7) (f_15.1 1 rfl (by decide))) (f_15.1 16 rfl (by decide)))⟩⟩⟩, ⟨by rw [ht]; exact hP, hD⟩⟩, hS.F ht⟩) hS.2.2 dX6_back_13

set_option maxHeartbeats 4000000 in
set_option maxRecDepth 100000 in
theorem e_X0_startTrip (l : Launch) (D : va_G) (E : Nat → ClassId) (G : Nat → Nat) (sz : Nat) (a : Nat → Nat) (C : Nat → va_E) (hT : TyX a E C) (x1 : Int32) (x2 : Int32) (x3 : Int32) (x4 : Int32) (x5 : Int32) (hx1 : rg x1 0 4) (hx3 : rg x3 0 15) (hx4 : rg x4 0 15) : Met l yX0_startTrip (oh_w yX0_startTrip cX0_startTrip 6 none) ({ frames := 0, cells := 0, slots := 0, locals := 0 }) (oh_Pm D E G [.ref (a 1), .int x1, .int x2, .int x3, .int x4, .int x5] (oh_W 35 a C) sz) (va_Qv (fun (u : Nat → va_E) => TyX a E u ∧ fr [(1, 2), (16, 17)] [] C u ∧ (gi (u 1) 7 = 1 ∧ ga (u 16) ((0 : Int32)).toNatClampNeg = x3 ∧ ga (u 16) ((1 : Int32)).toNatClampNeg = x4 ∧ ga (u 16) ((2 : Int32)).toNatClampNeg = x5 ∧ ga (u 16) ((3 : Int32)).toNatClampNeg = 0 ∧ ga (u 16) ((4 : Int32)).toNatClampNeg = 0 ∧ ga (u 16) ((5 : Int32)).toNatClampNeg = x1 ∧ ga (u 16) ((6 : Int32)).toNatClampNeg = x2)) (oh_B D (va_A (oh_W 35 a C) sz) (fun u => oh_W 35 a u)) (va_A (oh_W 35 a C) sz)) 0 0 (va_A (oh_W 35 a C) sz) := by
  refine Met.ofW (cc := cX0_startTrip) (maxL := 6) (ret := none) (by decide) rfl ?_
  intro p e s m args below meth c s₁ B hml hv
  obtain ⟨rfl, hsz, hP, hK, hD0, hG⟩ := hv
  have hx := B.exec
  have hb := B.bytes
  have hr := B.returns
  have hts := atoms_spec (ws := (oh_w yX0_startTrip cX0_startTrip 6 none)) B.pre
  have htg : ∀ w ∈ oh_t, w.before _ s = true := fun w h => hts w (List.mem_cons_of_mem _ h)
  have hown : s.vm.findClass RX0 = some m.cls := findClass_of_methodNamed B.named
  have hlocks := B.notSynchronized
  have hT0 := hT
  subst hsz
  have hD := hD0.self (sz := s.heap.size)
  generalize hAe : va_A (oh_W 35 a C) s.heap.size = A at hD hG ⊢
  have hA : ∀ q : Nat, s.heap.size ≤ q → A q := fun q h => by rw [← hAe]; exact Or.inr h
  have hS : va_S A s.heap s.heap [] := va_S.rf
  have hF : fr [(1, 2), (16, 17)] [] C C := fr_rf
  have hl := lv_entry ([.ref (a 1), .int x1, .int x2, .int x3, .int x4, .int x5]) (n := 6) (Nat.le_of_ble_eq_true rfl)
  rw [lg_entry_eq]
  generalize (lg_sl ([.ref (a 1), .int x1, .int x2, .int x3, .int x4, .int x5]) ++ List.replicate (6 - (lg_sl ([.ref (a 1), .int x1, .int x2, .int x3, .int x4, .int x5])).length) Slot.unset).toArray = ls at hl ⊢
  have hl : lv_has ls 6 [(0, .ref (a 1)), (1, .int x1), (2, .int x2), (3, .int x3), (4, .int x4), (5, .int x5)] := hl
  refine oh_genQ (fun Q hQ => ?_)
  refine lv_aload_n hx hb dX0_startTrip_0 rfl (lv_at hl 0 rfl) ?_
  refine va_get (D := D) (ci := 0) (v := .ref (a 16)) (C := RX0) (T := TX0) (N := 8) hx hb htg ig_0 hown hK hP 1 (oh_wg (by decide) (sX_1 hT)) rfl 6 (by decide) (htg _ q_111) (fun _ h9 => h9) rfl dX0_startTrip_1 ?_
  refine lv_iconst (v := 0) hx hb dX0_startTrip_4 (by decide) ?_
  refine lv_iload_n hx hb dX0_startTrip_5 rfl (lv_at hl 3 rfl) ?_
  refine th_iast (T := TyX a E) (Rl := fr [(1, 2), (16, 17)] [] C) hx hb hK hP hD hS 16 (by decide) (sX_16 hT) (rg_in (rg_c (v := 0) (lo := 0) (hi := 0) (by decide)) (by decide)) (hT.up 16 (tA_upd (tX_16 hT) (tA_stc (show _ = 0 by decide) hx3 (by decide)))) (fr_st hF (by decide) (by decide)) dX0_startTrip_6 (fun C_1 H locs e_2 hT hF hP hD hS => ?_)
  have t_3 := hT
  refine lv_aload_n hx hb dX0_startTrip_7 rfl (lv_at hl 0 rfl) ?_
  refine va_get (D := D) (ci := 0) (v := .ref (a 16)) (C := RX0) (T := TX0) (N := 8) hx hb htg ig_0 hown hK hP 1 (oh_wg (by decide) (sX_1 hT)) rfl 6 (by decide) (htg _ q_111) (fun _ h9 => h9) rfl dX0_startTrip_8 ?_
  refine lv_iconst (v := 1) hx hb dX0_startTrip_11 (by decide) ?_
  refine lv_iload hx hb dX0_startTrip_12 (lv_at hl 4 rfl) ?_
  refine th_iast (T := TyX a E) (Rl := fr [(1, 2), (16, 17)] [] C) hx hb hK hP hD hS 16 (by decide) (sX_16 hT) (rg_in (rg_c (v := 1) (lo := 1) (hi := 1) (by decide)) (by decide)) (hT.up 16 (tA_upd (tX_16 hT) (tA_stc (show _ = 1 by decide) hx4 (by decide)))) (fr_st hF (by decide) (by decide)) dX0_startTrip_14 (fun C_4 H locs e_5 hT hF hP hD hS => ?_)
  have t_6 := hT
  refine lv_aload_n hx hb dX0_startTrip_15 rfl (lv_at hl 0 rfl) ?_
  refine va_get (D := D) (ci := 0) (v := .ref (a 16)) (C := RX0) (T := TX0) (N := 8) hx hb htg ig_0 hown hK hP 1 (oh_wg (by decide) (sX_1 hT)) rfl 6 (by decide) (htg _ q_111) (fun _ h9 => h9) rfl dX0_startTrip_16 ?_
  refine lv_iconst (v := 2) hx hb dX0_startTrip_19 (by decide) ?_
  refine lv_iload hx hb dX0_startTrip_20 (lv_at hl 5 rfl) ?_
  refine th_iast (T := TyX a E) (Rl := fr [(1, 2), (16, 17)] [] C) hx hb hK hP hD hS 16 (by decide) (sX_16 hT) (rg_in (rg_c (v := 2) (lo := 2) (hi := 2) (by decide)) (by decide)) (hT.up 16 (tA_upd (tX_16 hT) (tA_stc (show _ = 2 by decide) (rg_any _) (by decide)))) (fr_st hF (by decide) (by decide)) dX0_startTrip_22 (fun C_7 H locs e_8 hT hF hP hD hS => ?_)
  have t_9 := hT
  refine lv_aload_n hx hb dX0_startTrip_23 rfl (lv_at hl 0 rfl) ?_
  refine va_get (D := D) (ci := 0) (v := .ref (a 16)) (C := RX0) (T := TX0) (N := 8) hx hb htg ig_0 hown hK hP 1 (oh_wg (by decide) (sX_1 hT)) rfl 6 (by decide) (htg _ q_111) (fun _ h9 => h9) rfl dX0_startTrip_24 ?_
  refine lv_iconst (v := 3) hx hb dX0_startTrip_27 (by decide) ?_
  refine lv_iconst (v := 0) hx hb dX0_startTrip_28 (by decide) ?_
  refine th_iast (T := TyX a E) (Rl := fr [(1, 2), (16, 17)] [] C) hx hb hK hP hD hS 16 (by decide) (sX_16 hT) (rg_in (rg_c (v := 3) (lo := 3) (hi := 3) (by decide)) (by decide)) (hT.up 16 (tA_upd (tX_16 hT) (tA_stc (show _ = 3 by decide) (rg_c (v := 0) (lo := 0) (hi := 0) (by decide)) (by decide)))) (fr_st hF (by decide) (by decide)) dX0_startTrip_29 (fun C_10 H locs e_11 hT hF hP hD hS => ?_)
  have t_12 := hT
  refine lv_aload_n hx hb dX0_startTrip_30 rfl (lv_at hl 0 rfl) ?_
  refine va_get (D := D) (ci := 0) (v := .ref (a 16)) (C := RX0) (T := TX0) (N := 8) hx hb htg ig_0 hown hK hP 1 (oh_wg (by decide) (sX_1 hT)) rfl 6 (by decide) (htg _ q_111) (fun _ h9 => h9) rfl dX0_startTrip_31 ?_
  refine lv_iconst (v := 4) hx hb dX0_startTrip_34 (by decide) ?_
  refine lv_iconst (v := 0) hx hb dX0_startTrip_35 (by decide) ?_
  refine th_iast (T := TyX a E) (Rl := fr [(1, 2), (16, 17)] [] C) hx hb hK hP hD hS 16 (by decide) (sX_16 hT) (rg_in (rg_c (v := 4) (lo := 4) (hi := 4) (by decide)) (by decide)) (hT.up 16 (tA_upd (tX_16 hT) (tA_stc (show _ = 4 by decide) (rg_c (v := 0) (lo := 0) (hi := 0) (by decide)) (by decide)))) (fr_st hF (by decide) (by decide)) dX0_startTrip_36 (fun C_13 H locs e_14 hT hF hP hD hS => ?_)
  have t_15 := hT
  refine lv_aload_n hx hb dX0_startTrip_37 rfl (lv_at hl 0 rfl) ?_
  refine va_get (D := D) (ci := 0) (v := .ref (a 16)) (C := RX0) (T := TX0) (N := 8) hx hb htg ig_0 hown hK hP 1 (oh_wg (by decide) (sX_1 hT)) rfl 6 (by decide) (htg _ q_111) (fun _ h9 => h9) rfl dX0_startTrip_38 ?_
  refine lv_iconst (v := 5) hx hb dX0_startTrip_41 (by decide) ?_
  refine lv_iload_n hx hb dX0_startTrip_42 rfl (lv_at hl 1 rfl) ?_
  refine th_iast (T := TyX a E) (Rl := fr [(1, 2), (16, 17)] [] C) hx hb hK hP hD hS 16 (by decide) (sX_16 hT) (rg_in (rg_c (v := 5) (lo := 5) (hi := 5) (by decide)) (by decide)) (hT.up 16 (tA_upd (tX_16 hT) (tA_stc (show _ = 5 by decide) hx1 (by decide)))) (fr_st hF (by decide) (by decide)) dX0_startTrip_43 (fun C_16 H locs e_17 hT hF hP hD hS => ?_)
  have t_18 := hT
  refine lv_aload_n hx hb dX0_startTrip_44 rfl (lv_at hl 0 rfl) ?_
  refine va_get (D := D) (ci := 0) (v := .ref (a 16)) (C := RX0) (T := TX0) (N := 8) hx hb htg ig_0 hown hK hP 1 (oh_wg (by decide) (sX_1 hT)) rfl 6 (by decide) (htg _ q_111) (fun _ h9 => h9) rfl dX0_startTrip_45 ?_
  refine lv_bipush (v := 6) hx hb dX0_startTrip_48 (by decide) ?_
  refine lv_iload_n hx hb dX0_startTrip_50 rfl (lv_at hl 2 rfl) ?_
  refine th_iast (T := TyX a E) (Rl := fr [(1, 2), (16, 17)] [] C) hx hb hK hP hD hS 16 (by decide) (sX_16 hT) (rg_in (rg_c (v := 6) (lo := 6) (hi := 6) (by decide)) (by decide)) (hT.up 16 (tA_upd (tX_16 hT) (tA_stc (show _ = 6 by decide) (rg_any _) (by decide)))) (fr_st hF (by decide) (by decide)) dX0_startTrip_51 (fun C_19 H locs e_20 hT hF hP hD hS => ?_)
  have t_21 := hT
  refine lv_aload_n hx hb dX0_startTrip_52 rfl (lv_at hl 0 rfl) ?_
  refine lv_iconst (v := 1) hx hb dX0_startTrip_53 (by decide) ?_
  refine th_put (Tp := TyX a E) (Rl := fr [(1, 2), (16, 17)] [] C) (ci := 0) (v := .int 1) (ty := .boolean) (CC := RX0) (T := TX0) (N := 8) hx hb htg ig_0 tyX0 tyX0_ok nmX0 hown hK hP hD hS 1 (by decide) (sX_1 hT) rfl 7 (by decide) (htg _ q_113) (fun _ h9 => h9) rfl (by decide +kernel) (by decide) (by decide) (Nat.le_of_ble_eq_true rfl) (hT.up 1 ⟨rfl, (rg_w (rg_c (v := 1) (lo := 1) (hi := 1) (by decide)) (by decide))⟩) (fr_st hF (by decide) (by decide)) dX0_startTrip_54 (fun C_22 H locs e_23 hT hF hP hD hS => ?_)
  have t_24 := hT
  rw [hQ]
  exact W.vret hx hb hr (fun t ht hW => ⟨⟨C_22, rfl, ⟨hT, hF, ⟨(show gi (C_22 1) 7 = (1 : Int32) by rw [e_23]; rfl), (show ga (C_22 16) ((0 : Int32)).toNatClampNeg = x3 from (by rw [show C_22 16 = C_19 16 from th_un e_23 (by decide), st_ga e_20, pk_un (by decide), st_ga e_17, pk_un (by decide), st_ga e_14, pk_un (by decide), st_ga e_11, pk_un (by decide), st_ga e_8, pk_un (by decide), st_ga e_5, pk_un (by decide), st_ga e_2, pk_us])), (show ga (C_22 16) ((1 : Int32)).toNatClampNeg = x4 from (by rw [show C_22 16 = C_19 16 from th_un e_23 (by decide), st_ga e_20, pk_un (by decide), st_ga e_17, pk_un (by decide), st_ga e_14, pk_un (by decide), st_ga e_11, pk_un (by decide), st_ga e_8, pk_un (by decide), st_ga e_5, pk_us])), (show ga (C_22 16) ((2 : Int32)).toNatClampNeg = x5 from (by rw [show C_22 16 = C_19 16 from th_un e_23 (by decide), st_ga e_20, pk_un (by decide), st_ga e_17, pk_un (by decide), st_ga e_14, pk_un (by decide), st_ga e_11, pk_un (by decide), st_ga e_8, pk_us])), (show ga (C_22 16) ((3 : Int32)).toNatClampNeg = (0 : Int32) from (by rw [show C_22 16 = C_19 16 from th_un e_23 (by decide), st_ga e_20, pk_un (by decide), st_ga e_17, pk_un (by decide), st_ga e_14, pk_un (by decide), st_ga e_11, pk_us])), (show ga (C_22 16) ((4 : Int32)).toNatClampNeg = (0 : Int32) from (by rw [show C_22 16 = C_19 16 from th_un e_23 (by decide), st_ga e_20, pk_un (by decide), st_ga e_17, pk_un (by decide), st_ga e_14, pk_us])), (show ga (C_22 16) ((5 : Int32)).toNatClampNeg = x1 from (by rw [show C_22 16 = C_19 16 from th_un e_23 (by decide), st_ga e_20, pk_un (by decide), st_ga e_17, pk_us])), (show ga (C_22 16) ((6 : Int32)).toNatClampNeg = x2 from (by rw [show C_22 16 = C_19 16 from th_un e_23 (by decide), st_ga e_20, pk_us]))⟩⟩, ⟨by rw [ht]; exact hP, hD⟩⟩, hS.F ht⟩) hS.2.2 dX0_startTrip_57

theorem bg_X {u : Nat → va_E} {A : LA} {w s f t c : Int32} {T : TP} (h : gi (u 1) 7 = 1 ∧ ga (u 16) 0 = f ∧ ga (u 16) 1 = t ∧ ga (u 16) 2 = c ∧ ga (u 16) 3 = 0 ∧ ga (u 16) 4 = 0 ∧ ga (u 16) 5 = w ∧ ga (u 16) 6 = s) (hc : c = sumA A s 1 (A 5 0 3).toNatClampNeg) (hj : okJ A w s f t) : absTX 1 16 u (bgT A w s f t T) := by
  rw [show bgT A w s f t T = bgR w s f t (sumA A s 1 (A 5 0 3).toNatClampNeg) from pif_pos hj, ← hc]
  obtain ⟨h7, h0, h1, h2, h3, h4, h5, h6⟩ := h
  exact ⟨h7, h5, h6, h0, h1, h3, h4, h2⟩

set_option maxHeartbeats 4000000 in
set_option maxRecDepth 100000 in
theorem e2_X6_begin (l : Launch) (D : va_G) (E : Nat → ClassId) (G : Nat → Nat) (sz : Nat) (a : Nat → Nat) (C : Nat → va_E) (hT : TyX a E C) (x1 : Int32) (x2 : Int32) (x3 : Int32) (x4 : Int32) : Met l yX6_begin (oh_w yX6_begin cX6_begin 5 (some .int)) ({ frames := 4, cells := 0, slots := 0, locals := 89 }) (oh_Pm D E G [.ref (a 0), .int x1, .int x2, .int x3, .int x4] (oh_W 35 a C) sz) (va_Qi (fun r (u : Nat → va_E) => TyX a E u ∧ fr [(1, 2), (7, 8), (9, 10), (16, 17)] [] C u ∧ (∀ A : LA, absX 10 C A → r = spBegin A x1 x2 x3 x4) ∧ (∀ (A : LA) (T : TP), absX 10 C A → absTX 1 16 C T → absTX 1 16 u (bgT A x1 x2 x3 x4 T))) (oh_B D (va_A (oh_W 35 a C) sz) (fun u => oh_W 35 a u)) (va_A (oh_W 35 a C) sz)) 0 0 (va_A (oh_W 35 a C) sz) := by
  refine Met.ofW (cc := cX6_begin) (maxL := 5) (ret := (some .int)) (by decide) rfl ?_
  intro p e s m args below meth c s₁ B hml hv
  obtain ⟨rfl, hsz, hP, hK, hD0, hG⟩ := hv
  have hx := B.exec
  have hb := B.bytes
  have hr := B.returns
  have hts := atoms_spec (ws := (oh_w yX6_begin cX6_begin 5 (some .int))) B.pre
  have htg : ∀ w ∈ oh_t, w.before _ s = true := fun w h => hts w (List.mem_cons_of_mem _ h)
  have hown : s.vm.findClass RX6 = some m.cls := findClass_of_methodNamed B.named
  have hlocks := B.notSynchronized
  have hT0 := hT
  subst hsz
  have hD := hD0.self (sz := s.heap.size)
  generalize hAe : va_A (oh_W 35 a C) s.heap.size = A at hD hG ⊢
  have hA : ∀ q : Nat, s.heap.size ≤ q → A q := fun q h => by rw [← hAe]; exact Or.inr h
  have hS : va_S A s.heap s.heap [] := va_S.rf
  have hF : fr [(1, 2), (7, 8), (9, 10), (16, 17)] [] C C := fr_rf
  have hl := lv_entry ([.ref (a 0), .int x1, .int x2, .int x3, .int x4]) (n := 5) (Nat.le_of_ble_eq_true rfl)
  rw [lg_entry_eq]
  generalize (lg_sl ([.ref (a 0), .int x1, .int x2, .int x3, .int x4]) ++ List.replicate (5 - (lg_sl ([.ref (a 0), .int x1, .int x2, .int x3, .int x4])).length) Slot.unset).toArray = ls at hl ⊢
  have hl : lv_has ls 5 [(0, .ref (a 0)), (1, .int x1), (2, .int x2), (3, .int x3), (4, .int x4)] := hl
  refine oh_genQ (fun Q hQ => ?_)
  refine lv_aload_n hx hb dX6_begin_0 rfl (lv_at hl 0 rfl) ?_
  refine lv_iload_n hx hb dX6_begin_1 rfl (lv_at hl 1 rfl) ?_
  refine lv_iload_n hx hb dX6_begin_2 rfl (lv_at hl 2 rfl) ?_
  refine lv_iload_n hx hb dX6_begin_3 rfl (lv_at hl 3 rfl) ?_
  refine lv_iload hx hb dX6_begin_4 (lv_at hl 4 rfl) ?_
  refine tq_V (As := [.int x1, .int x2, .int x3, .int x4]) (rest := []) (ws := (oh_W 35 a C)) ⟨hx, hb, hml, hown, htg⟩ (e_X6_isJourney l D E G a C hT x1 x2 x3 x4) (cwV 4 htg (oh_gV q_776 q_778 q_17 q_66 q_779) rfl rfl rfl pdVX6_isJourney ⟨Nat.le_of_ble_eq_true rfl, Nat.le_of_ble_eq_true rfl⟩) hK hP hG hS (va_recv hK hP (ci := 6) (q0 := 0) rfl (oh_wg (by decide) (sX_0 hT))) rfl hl.1 rfl (Nat.le_of_ble_eq_true rfl) dX6_begin_6 ⟨Nat.le_of_ble_eq_true rfl, Nat.le_of_ble_eq_true rfl⟩ (fun r_1 hq_2 => ?_)
  refine lv_if_ne (tgt := 19) hx hb dX6_begin_9 (by decide) (fun (c_3 : ¬ (r_1 = 0)) => ?_) (fun (c_3 : r_1 = 0) => ?_)
  · have u_4 := hq_2.2.1 c_3
    refine lv_aload_n hx hb dX6_begin_19 rfl (lv_at hl 0 rfl) ?_
    refine va_get (D := D) (ci := 6) (v := .ref (a 3)) (C := RX6) (T := TX6) (N := 9) hx hb htg ig_6 hown hK hP 0 (oh_wg (by decide) (sX_0 hT)) rfl 3 (by decide) (htg _ q_261) (fun _ h9 => h9) rfl dX6_begin_20 ?_
    refine va_get (D := D) (ci := 5) (v := .ref (a 9)) (C := RX5) (T := TX5) (N := 7) hx hb htg ig_5 hown hK hP 3 (oh_wg (by decide) (sX_3 hT)) rfl 1 (by decide) (htg _ q_169) (fun _ h9 => h9) rfl dX6_begin_23 ?_
    refine lv_aload_n hx hb dX6_begin_26 rfl (lv_at hl 0 rfl) ?_
    refine va_get (D := D) (ci := 6) (v := .ref (a 1)) (C := RX6) (T := TX6) (N := 9) hx hb htg ig_6 hown hK hP 0 (oh_wg (by decide) (sX_0 hT)) rfl 0 (by decide) (htg _ q_258) (fun _ h9 => h9) rfl dX6_begin_27 ?_
    refine lv_iload_n hx hb dX6_begin_30 rfl (lv_at hl 1 rfl) ?_
    refine lv_iload_n hx hb dX6_begin_31 rfl (lv_at hl 2 rfl) ?_
    refine tm_Vv (As := [.ref (a 1), .int x1, .int x2]) (rest := []) ⟨hx, hb, hml, hown, htg⟩ (e2_X1_take l D E G _ a C hT x1 x2 (rg_w u_4.1 (by decide))) (cwV 3 htg (oh_gV q_703 q_704 q_705 q_69 q_706) rfl rfl rfl pdVX1_take ⟨Nat.le_of_ble_eq_true rfl, Nat.le_of_ble_eq_true rfl⟩) hK hP hD hG hS hA (va_recv hK hP (ci := 1) (q0 := 9) rfl (oh_wg (by decide) (sX_9 hT))) rfl hl.1 rfl (Nat.le_of_ble_eq_true rfl) dX6_begin_32 ⟨Nat.le_of_ble_eq_true rfl, Nat.le_of_ble_eq_true rfl⟩ (fun C_6 H locs hq_7 hP hD hS => ?_)
    obtain ⟨hT, f_8, hq_7⟩ := hq_7
    have hF := fr_tr hF f_8 (by decide) (by decide)
    refine W.widen (k := 0) (n := 0) (Nat.le_refl _) (Nat.le_refl _) ?_
    have t_9 := hT
    refine lv_aload_n hx hb dX6_begin_35 rfl (lv_at hl 0 rfl) ?_
    refine va_get (D := D) (ci := 6) (v := .ref (a 1)) (C := RX6) (T := TX6) (N := 9) hx hb htg ig_6 hown hK hP 0 (oh_wg (by decide) (sX_0 hT)) rfl 0 (by decide) (htg _ q_258) (fun _ h9 => h9) rfl dX6_begin_36 ?_
    refine lv_iload_n hx hb dX6_begin_39 rfl (lv_at hl 1 rfl) ?_
    refine lv_iload_n hx hb dX6_begin_40 rfl (lv_at hl 2 rfl) ?_
    refine lv_iload_n hx hb dX6_begin_41 rfl (lv_at hl 3 rfl) ?_
    refine lv_iload hx hb dX6_begin_42 (lv_at hl 4 rfl) ?_
    refine lv_aload_n hx hb dX6_begin_44 rfl (lv_at hl 0 rfl) ?_
    refine va_get (D := D) (ci := 6) (v := .ref (a 3)) (C := RX6) (T := TX6) (N := 9) hx hb htg ig_6 hown hK hP 0 (oh_wg (by decide) (sX_0 hT)) rfl 3 (by decide) (htg _ q_261) (fun _ h9 => h9) rfl dX6_begin_45 ?_
    refine va_get (D := D) (ci := 5) (v := .ref (a 9)) (C := RX5) (T := TX5) (N := 7) hx hb htg ig_5 hown hK hP 3 (oh_wg (by decide) (sX_3 hT)) rfl 1 (by decide) (htg _ q_169) (fun _ h9 => h9) rfl dX6_begin_48 ?_
    refine va_get (D := D) (ci := 1) (v := .int (gi (C_6 9) 4)) (C := RX1) (T := TX1) (N := 5) hx hb htg ig_1 hown hK hP 9 (oh_wg (by decide) (sX_9 hT)) rfl 4 (by decide) (htg _ q_154) (fun _ h9 => h9) rfl dX6_begin_51 ?_
    refine tm_Vv (As := [.int x1, .int x2, .int x3, .int x4, .int (gi (C_6 9) 4)]) (rest := []) ⟨hx, hb, hml, hown, htg⟩ (e_X0_startTrip l D E G _ a C_6 hT x1 x2 x3 x4 (gi (C_6 9) 4) (rg_w u_4.1 (by decide)) (rg_w u_4.2.1 (by decide)) (rg_w u_4.2.2.1 (by decide))) (cwV 5 htg (oh_gV q_908 q_909 q_910 q_67 q_911) rfl rfl rfl pdVX0_startTrip ⟨Nat.le_of_ble_eq_true rfl, Nat.le_of_ble_eq_true rfl⟩) hK hP hD hG hS hA (va_recv hK hP (ci := 0) (q0 := 1) rfl (oh_wg (by decide) (sX_1 hT))) rfl hl.1 rfl (Nat.le_of_ble_eq_true rfl) dX6_begin_54 ⟨Nat.le_of_ble_eq_true rfl, Nat.le_of_ble_eq_true rfl⟩ (fun C_11 H locs hq_12 hP hD hS => ?_)
    obtain ⟨hT, f_13, hq_12⟩ := hq_12
    have hF := fr_tr hF f_13 (by decide) (by decide)
    refine W.widen (k := 0) (n := 0) (Nat.le_refl _) (Nat.le_refl _) ?_
    have t_14 := hT
    refine lv_iconst (v := 1) hx hb dX6_begin_57 (by decide) ?_
    rw [hQ]
    exact W.iret (v := 1) hx hb hr (fun t ht hW => ⟨⟨1, C_11, rfl, ⟨hT, hF, ⟨(fun A hA => by unfold spBegin; rw [← (show ga (C 10) ((2 : Int32)).toNatClampNeg = A 5 0 2 from hA.1 2 (by decide)), ← (show ga (C 10) ((3 : Int32)).toNatClampNeg = A 5 0 3 from hA.1 3 (by decide))]; exact (pif_pos u_4.2.2.2).symm), (fun A T hA hT => by have hj : okJ A x1 x2 x3 x4 := (by unfold okJ; rw [← (show ga (C 10) ((2 : Int32)).toNatClampNeg = A 5 0 2 from hA.1 2 (by decide)), ← (show ga (C 10) ((3 : Int32)).toNatClampNeg = A 5 0 3 from hA.1 3 (by decide))]; exact u_4.2.2.2); exact bg_X hq_12 (hq_7 A hA hj.1.1.2).2.2.2.2 hj)⟩⟩, ⟨by rw [ht]; exact hP, hD⟩⟩, hS.F ht⟩) hS.2.2 dX6_begin_58
  · have u_15 := hq_2.2.2 c_3
    refine lv_aload_n hx hb dX6_begin_12 rfl (lv_at hl 0 rfl) ?_
    refine lv_bipush (v := (-2)) hx hb dX6_begin_13 (by decide) ?_
    refine tm_V (As := [.int (-2)]) (rest := []) ⟨hx, hb, hml, hown, htg⟩ (c_X6_refuse l D E G _ a C hT ((-2) : Int32)) (cwV 1 htg (oh_gV q_296 q_298 q_0 q_66 q_299) rfl rfl rfl pdVX6_refuse ⟨Nat.le_of_ble_eq_true rfl, Nat.le_of_ble_eq_true rfl⟩) hK hP hD hG hS hA (va_recv hK hP (ci := 6) (q0 := 0) rfl (oh_wg (by decide) (sX_0 hT))) rfl hl.1 rfl (Nat.le_of_ble_eq_true rfl) dX6_begin_15 ⟨Nat.le_of_ble_eq_true rfl, Nat.le_of_ble_eq_true rfl⟩ (fun r_16 C_17 H locs hq_18 hP hD hS => ?_)
    obtain ⟨hT, f_19, hq_18⟩ := hq_18
    have hF := fr_tr hF f_19 (by decide) (by decide)
    refine W.widen (k := 0) (n := 0) (Nat.le_refl _) (Nat.le_refl _) ?_
    have t_20 := hT
    rw [hQ]
    exact W.iret (v := r_16) hx hb hr (fun t ht hW => ⟨⟨r_16, C_17, rfl, ⟨hT, hF, ⟨(fun A hA => by unfold spBegin; rw [← (show ga (C 10) ((2 : Int32)).toNatClampNeg = A 5 0 2 from hA.1 2 (by decide)), ← (show ga (C 10) ((3 : Int32)).toNatClampNeg = A 5 0 3 from hA.1 3 (by decide))]; exact Eq.trans hq_18 (pif_neg u_15).symm), (fun A T hA hT => by rw [show bgT A x1 x2 x3 x4 T = T from pif_neg (by unfold okJ; rw [← (show ga (C 10) ((2 : Int32)).toNatClampNeg = A 5 0 2 from hA.1 2 (by decide)), ← (show ga (C 10) ((3 : Int32)).toNatClampNeg = A 5 0 3 from hA.1 3 (by decide))]; exact u_15)]; exact (absTX_eq hT (congrArg (fun z => gi z 7) (f_19.1 1 rfl (by decide))) (f_19.1 16 rfl (by decide))))⟩⟩, ⟨by rw [ht]; exact hP, hD⟩⟩, hS.F ht⟩) hS.2.2 dX6_begin_18

set_option maxHeartbeats 4000000 in
set_option maxRecDepth 100000 in
theorem e2_X7_begin (l : Launch) (D : va_G) (E : Nat → ClassId) (G : Nat → Nat) (sz : Nat) (a : Nat → Nat) (C : Nat → va_E) (n : Nat) (hn : 74 ≤ n) (hT : TyM a E C) (x1 : Int32) (x2 : Int32) (x3 : Int32) (x4 : Int32) (hR : RelM C) : Met l yX7_begin (oh_w yX7_begin cX7_begin 5 (some .int)) ({ frames := 3, cells := 0, slots := 0, locals := 68 }) (oh_Pm D E G [.ref (a 0), .int x1, .int x2, .int x3, .int x4] (oh_W n a C) sz) (va_Qi (fun r (u : Nat → va_E) => TyM a E u ∧ fr [(8, 9), (14, 15)] [19] C u ∧ (RelM u) ∧ (∀ A : LA, absM C A → r = spBegin A x1 x2 x3 x4) ∧ (∀ (A : LA) (T : TP), absM C A → absTM C T → absTM u (bgT A x1 x2 x3 x4 T))) (oh_B D (va_A (oh_W n a C) sz) (fun u => oh_W n a u)) (va_A (oh_W n a C) sz)) 0 0 (va_A (oh_W n a C) sz) := by
  refine Met.ofW (cc := cX7_begin) (maxL := 5) (ret := (some .int)) (by decide) rfl ?_
  intro p e s m args below meth c s₁ B hml hv
  obtain ⟨rfl, hsz, hP, hK, hD0, hG⟩ := hv
  have hx := B.exec
  have hb := B.bytes
  have hr := B.returns
  have hts := atoms_spec (ws := (oh_w yX7_begin cX7_begin 5 (some .int))) B.pre
  have htg : ∀ w ∈ oh_t, w.before _ s = true := fun w h => hts w (List.mem_cons_of_mem _ h)
  have hown : s.vm.findClass RX7 = some m.cls := findClass_of_methodNamed B.named
  have hlocks := B.notSynchronized
  have hT0 := hT
  subst hsz
  have hD := hD0.self (sz := s.heap.size)
  generalize hAe : va_A (oh_W n a C) s.heap.size = A at hD hG ⊢
  have hA : ∀ q : Nat, s.heap.size ≤ q → A q := fun q h => by rw [← hAe]; exact Or.inr h
  have hS : va_S A s.heap s.heap [] := va_S.rf
  have hF : fr [(8, 9), (14, 15)] [19] C C := fr_rf
  have hl := lv_entry ([.ref (a 0), .int x1, .int x2, .int x3, .int x4]) (n := 5) (Nat.le_of_ble_eq_true rfl)
  rw [lg_entry_eq]
  generalize (lg_sl ([.ref (a 0), .int x1, .int x2, .int x3, .int x4]) ++ List.replicate (5 - (lg_sl ([.ref (a 0), .int x1, .int x2, .int x3, .int x4])).length) Slot.unset).toArray = ls at hl ⊢
  have hl : lv_has ls 5 [(0, .ref (a 0)), (1, .int x1), (2, .int x2), (3, .int x3), (4, .int x4)] := hl
  refine oh_genQ (fun Q hQ => ?_)
  refine lv_aload_n hx hb dX7_begin_0 rfl (lv_at hl 0 rfl) ?_
  refine lv_iload_n hx hb dX7_begin_1 rfl (lv_at hl 1 rfl) ?_
  refine lv_iload_n hx hb dX7_begin_2 rfl (lv_at hl 2 rfl) ?_
  refine tq_V (As := [.int x1, .int x2]) (rest := []) (ws := (oh_W n a C)) ⟨hx, hb, hml, hown, htg⟩ (e_X7_isPack l D E G a C n hn hT x1 x2 hR.1) (cwV 2 htg (oh_gV q_1290 q_1292 q_50 q_73 q_1293) rfl rfl rfl pdVX7_isPack ⟨Nat.le_of_ble_eq_true rfl, Nat.le_of_ble_eq_true rfl⟩) hK hP hG hS (va_recv hK hP (ci := 7) (q0 := 0) rfl (oh_wg (Nat.lt_of_lt_of_le (by decide) hn) (sM_0 hT))) rfl hl.1 rfl (Nat.le_of_ble_eq_true rfl) dX7_begin_3 ⟨Nat.le_of_ble_eq_true rfl, Nat.le_of_ble_eq_true rfl⟩ (fun r_1 hq_2 => ?_)
  refine lv_if_eq (tgt := 24) hx hb dX7_begin_6 (by decide) (fun (c_3 : r_1 = 0) => ?_) (fun (c_3 : ¬ (r_1 = 0)) => ?_)
  · have u_4 := hq_2.2.2 c_3
    refine lv_aload_n hx hb dX7_begin_24 rfl (lv_at hl 0 rfl) ?_
    refine lv_bipush (v := (-2)) hx hb dX7_begin_25 (by decide) ?_
    refine tm_V (As := [.int (-2)]) (rest := []) ⟨hx, hb, hml, hown, htg⟩ (c_X7_refuse l D E G _ a C n hn hT ((-2) : Int32) (rg_w (rg_c (v := (-2)) (lo := (-2)) (hi := (-2)) (by decide)) (by decide))) (cwV 1 htg (oh_gV q_1071 q_1073 q_29 q_73 q_1074) rfl rfl rfl pdVX7_refuse ⟨Nat.le_of_ble_eq_true rfl, Nat.le_of_ble_eq_true rfl⟩) hK hP hD hG hS hA (va_recv hK hP (ci := 7) (q0 := 0) rfl (oh_wg (Nat.lt_of_lt_of_le (by decide) hn) (sM_0 hT))) rfl hl.1 rfl (Nat.le_of_ble_eq_true rfl) dX7_begin_27 ⟨Nat.le_of_ble_eq_true rfl, Nat.le_of_ble_eq_true rfl⟩ (fun r_5 C_6 H locs hq_7 hP hD hS => ?_)
    obtain ⟨hT, f_8, hq_7⟩ := hq_7
    have hF := fr_tr hF f_8 (by decide) (by decide)
    refine W.widen (k := 0) (n := 0) (Nat.le_refl _) (Nat.le_refl _) ?_
    have t_9 := hT
    rw [hQ]
    exact W.iret (v := r_5) hx hb hr (fun t ht hW => ⟨⟨r_5, C_6, rfl, ⟨hT, hF, ⟨⟨(RelW.fr hR.1 f_8 (by decide)), hR.2.fr hF (by decide)⟩, (fun A hA => by unfold spBegin; rw [← (show gi (C 0) 13 = A 5 0 2 from hA.1 2 (by decide)), ← (show gi (C 0) 15 = A 5 0 3 from hA.1 3 (by decide))]; exact Eq.trans hq_7 (pif_neg (fun h8 => u_4 h8.1)).symm), (fun A T hA hT => by rw [show bgT A x1 x2 x3 x4 T = T from pif_neg (by unfold okJ; rw [← (show gi (C 0) 13 = A 5 0 2 from hA.1 2 (by decide)), ← (show gi (C 0) 15 = A 5 0 3 from hA.1 3 (by decide))]; exact (fun h8 => u_4 h8.1))]; exact (absTM_eq hT (f_8.1 14 rfl (by decide)) (show gi (C_6 0) 19 = gi (C 0) 19 from (congrArg vi (f_8.2 19 (by decide))))))⟩⟩, ⟨by rw [ht]; exact hP, hD⟩⟩, hS.F ht⟩) hS.2.2 dX7_begin_30
  · have u_10 := hq_2.2.1 c_3
    refine lv_iload_n hx hb dX7_begin_9 rfl (lv_at hl 3 rfl) ?_
    refine tq_S (As := [.int x3]) (rest := []) (ws := []) ⟨hx, hb, hml, hown, htg⟩ (e_X7_isPlace l D E G x3) (va_cwS 1 htg (oh_gS q_1130 q_1131 q_73 q_1132) rfl rfl rfl pdX7_isPlace ⟨Nat.le_of_ble_eq_true rfl, Nat.le_of_ble_eq_true rfl⟩) hK va_nil hG hS rfl hl.1 rfl (Nat.le_of_ble_eq_true rfl) dX7_begin_10 ⟨Nat.le_of_ble_eq_true rfl, Nat.le_of_ble_eq_true rfl⟩ (fun r_11 hq_12 => ?_)
    refine lv_if_eq (tgt := 24) hx hb dX7_begin_13 (by decide) (fun (c_13 : r_11 = 0) => ?_) (fun (c_13 : ¬ (r_11 = 0)) => ?_)
    · have u_14 := hq_12.2.2 c_13
      refine lv_aload_n hx hb dX7_begin_24 rfl (lv_at hl 0 rfl) ?_
      refine lv_bipush (v := (-2)) hx hb dX7_begin_25 (by decide) ?_
      refine tm_V (As := [.int (-2)]) (rest := []) ⟨hx, hb, hml, hown, htg⟩ (c_X7_refuse l D E G _ a C n hn hT ((-2) : Int32) (rg_w (rg_c (v := (-2)) (lo := (-2)) (hi := (-2)) (by decide)) (by decide))) (cwV 1 htg (oh_gV q_1071 q_1073 q_29 q_73 q_1074) rfl rfl rfl pdVX7_refuse ⟨Nat.le_of_ble_eq_true rfl, Nat.le_of_ble_eq_true rfl⟩) hK hP hD hG hS hA (va_recv hK hP (ci := 7) (q0 := 0) rfl (oh_wg (Nat.lt_of_lt_of_le (by decide) hn) (sM_0 hT))) rfl hl.1 rfl (Nat.le_of_ble_eq_true rfl) dX7_begin_27 ⟨Nat.le_of_ble_eq_true rfl, Nat.le_of_ble_eq_true rfl⟩ (fun r_15 C_16 H locs hq_17 hP hD hS => ?_)
      obtain ⟨hT, f_18, hq_17⟩ := hq_17
      have hF := fr_tr hF f_18 (by decide) (by decide)
      refine W.widen (k := 0) (n := 0) (Nat.le_refl _) (Nat.le_refl _) ?_
      have t_19 := hT
      rw [hQ]
      exact W.iret (v := r_15) hx hb hr (fun t ht hW => ⟨⟨r_15, C_16, rfl, ⟨hT, hF, ⟨⟨(RelW.fr hR.1 f_18 (by decide)), hR.2.fr hF (by decide)⟩, (fun A hA => by unfold spBegin; rw [← (show gi (C 0) 13 = A 5 0 2 from hA.1 2 (by decide)), ← (show gi (C 0) 15 = A 5 0 3 from hA.1 3 (by decide))]; exact Eq.trans hq_17 (pif_neg (fun h8 => u_14 h8.2.1)).symm), (fun A T hA hT => by rw [show bgT A x1 x2 x3 x4 T = T from pif_neg (by unfold okJ; rw [← (show gi (C 0) 13 = A 5 0 2 from hA.1 2 (by decide)), ← (show gi (C 0) 15 = A 5 0 3 from hA.1 3 (by decide))]; exact (fun h8 => u_14 h8.2.1))]; exact (absTM_eq hT (f_18.1 14 rfl (by decide)) (show gi (C_16 0) 19 = gi (C 0) 19 from (congrArg vi (f_18.2 19 (by decide))))))⟩⟩, ⟨by rw [ht]; exact hP, hD⟩⟩, hS.F ht⟩) hS.2.2 dX7_begin_30
    · have u_20 := hq_12.2.1 c_13
      refine lv_iload hx hb dX7_begin_16 (lv_at hl 4 rfl) ?_
      refine tq_S (As := [.int x4]) (rest := []) (ws := []) ⟨hx, hb, hml, hown, htg⟩ (e_X7_isPlace l D E G x4) (va_cwS 1 htg (oh_gS q_1130 q_1131 q_73 q_1132) rfl rfl rfl pdX7_isPlace ⟨Nat.le_of_ble_eq_true rfl, Nat.le_of_ble_eq_true rfl⟩) hK va_nil hG hS rfl hl.1 rfl (Nat.le_of_ble_eq_true rfl) dX7_begin_18 ⟨Nat.le_of_ble_eq_true rfl, Nat.le_of_ble_eq_true rfl⟩ (fun r_21 hq_22 => ?_)
      refine lv_if_ne (tgt := 31) hx hb dX7_begin_21 (by decide) (fun (c_23 : ¬ (r_21 = 0)) => ?_) (fun (c_23 : r_21 = 0) => ?_)
      · have u_24 := hq_22.2.1 c_23
        refine lv_aload_n hx hb dX7_begin_31 rfl (lv_at hl 0 rfl) ?_
        refine va_get (D := D) (ci := 7) (v := .ref (a 14)) (C := RX7) (T := TX7) (N := 29) hx hb htg ig_7 hown hK hP 0 (oh_wg (Nat.lt_of_lt_of_le (by decide) hn) (sM_0 hT)) rfl 18 (by decide) (htg _ q_991) (fun _ h9 => h9) rfl dX7_begin_32 ?_
        refine lv_iconst (v := 0) hx hb dX7_begin_35 (by decide) ?_
        refine lv_iconst (v := 1) hx hb dX7_begin_36 (by decide) ?_
        refine th_iast (T := TyM a E) (Rl := fr [(8, 9), (14, 15)] [19] C) hx hb hK hP hD hS 14 (Nat.lt_of_lt_of_le (by decide) hn) (sM_14 hT) (rg_in (rg_c (v := 0) (lo := 0) (hi := 0) (by decide)) (by decide)) (hT.up 14 (by decide) (tA_upd (tM_14 hT) (tA_stc (show _ = 0 by decide) (rg_c (v := 1) (lo := 1) (hi := 1) (by decide)) (by decide)))) (fr_st hF (by decide) (by decide)) dX7_begin_37 (fun C_25 H locs e_26 hT hF hP hD hS => ?_)
        have t_27 := hT
        refine lv_aload_n hx hb dX7_begin_38 rfl (lv_at hl 0 rfl) ?_
        refine va_get (D := D) (ci := 7) (v := .ref (a 14)) (C := RX7) (T := TX7) (N := 29) hx hb htg ig_7 hown hK hP 0 (oh_wg (Nat.lt_of_lt_of_le (by decide) hn) (sM_0 hT)) rfl 18 (by decide) (htg _ q_991) (fun _ h9 => h9) rfl dX7_begin_39 ?_
        refine lv_iconst (v := 1) hx hb dX7_begin_42 (by decide) ?_
        refine lv_iload_n hx hb dX7_begin_43 rfl (lv_at hl 1 rfl) ?_
        refine th_iast (T := TyM a E) (Rl := fr [(8, 9), (14, 15)] [19] C) hx hb hK hP hD hS 14 (Nat.lt_of_lt_of_le (by decide) hn) (sM_14 hT) (rg_in (rg_c (v := 1) (lo := 1) (hi := 1) (by decide)) (by decide)) (hT.up 14 (by decide) (tA_upd (tM_14 hT) (tA_stc (show _ = 1 by decide) u_10.1 (by decide)))) (fr_st hF (by decide) (by decide)) dX7_begin_44 (fun C_28 H locs e_29 hT hF hP hD hS => ?_)
        have t_30 := hT
        refine lv_aload_n hx hb dX7_begin_45 rfl (lv_at hl 0 rfl) ?_
        refine va_get (D := D) (ci := 7) (v := .ref (a 14)) (C := RX7) (T := TX7) (N := 29) hx hb htg ig_7 hown hK hP 0 (oh_wg (Nat.lt_of_lt_of_le (by decide) hn) (sM_0 hT)) rfl 18 (by decide) (htg _ q_991) (fun _ h9 => h9) rfl dX7_begin_46 ?_
        refine lv_iconst (v := 2) hx hb dX7_begin_49 (by decide) ?_
        refine lv_iload_n hx hb dX7_begin_50 rfl (lv_at hl 2 rfl) ?_
        refine th_iast (T := TyM a E) (Rl := fr [(8, 9), (14, 15)] [19] C) hx hb hK hP hD hS 14 (Nat.lt_of_lt_of_le (by decide) hn) (sM_14 hT) (rg_in (rg_c (v := 2) (lo := 2) (hi := 2) (by decide)) (by decide)) (hT.up 14 (by decide) (tA_upd (tM_14 hT) (tA_stc (show _ = 2 by decide) (rg_any _) (by decide)))) (fr_st hF (by decide) (by decide)) dX7_begin_51 (fun C_31 H locs e_32 hT hF hP hD hS => ?_)
        have t_33 := hT
        refine lv_aload_n hx hb dX7_begin_52 rfl (lv_at hl 0 rfl) ?_
        refine va_get (D := D) (ci := 7) (v := .ref (a 14)) (C := RX7) (T := TX7) (N := 29) hx hb htg ig_7 hown hK hP 0 (oh_wg (Nat.lt_of_lt_of_le (by decide) hn) (sM_0 hT)) rfl 18 (by decide) (htg _ q_991) (fun _ h9 => h9) rfl dX7_begin_53 ?_
        refine lv_iconst (v := 3) hx hb dX7_begin_56 (by decide) ?_
        refine lv_iload_n hx hb dX7_begin_57 rfl (lv_at hl 3 rfl) ?_
        refine th_iast (T := TyM a E) (Rl := fr [(8, 9), (14, 15)] [19] C) hx hb hK hP hD hS 14 (Nat.lt_of_lt_of_le (by decide) hn) (sM_14 hT) (rg_in (rg_c (v := 3) (lo := 3) (hi := 3) (by decide)) (by decide)) (hT.up 14 (by decide) (tA_upd (tM_14 hT) (tA_stc (show _ = 3 by decide) u_20 (by decide)))) (fr_st hF (by decide) (by decide)) dX7_begin_58 (fun C_34 H locs e_35 hT hF hP hD hS => ?_)
        have t_36 := hT
        refine lv_aload_n hx hb dX7_begin_59 rfl (lv_at hl 0 rfl) ?_
        refine va_get (D := D) (ci := 7) (v := .ref (a 14)) (C := RX7) (T := TX7) (N := 29) hx hb htg ig_7 hown hK hP 0 (oh_wg (Nat.lt_of_lt_of_le (by decide) hn) (sM_0 hT)) rfl 18 (by decide) (htg _ q_991) (fun _ h9 => h9) rfl dX7_begin_60 ?_
        refine lv_iconst (v := 4) hx hb dX7_begin_63 (by decide) ?_
        refine lv_iload hx hb dX7_begin_64 (lv_at hl 4 rfl) ?_
        refine th_iast (T := TyM a E) (Rl := fr [(8, 9), (14, 15)] [19] C) hx hb hK hP hD hS 14 (Nat.lt_of_lt_of_le (by decide) hn) (sM_14 hT) (rg_in (rg_c (v := 4) (lo := 4) (hi := 4) (by decide)) (by decide)) (hT.up 14 (by decide) (tA_upd (tM_14 hT) (tA_stc (show _ = 4 by decide) u_24 (by decide)))) (fr_st hF (by decide) (by decide)) dX7_begin_66 (fun C_37 H locs e_38 hT hF hP hD hS => ?_)
        have t_39 := hT
        refine lv_aload_n hx hb dX7_begin_67 rfl (lv_at hl 0 rfl) ?_
        refine va_get (D := D) (ci := 7) (v := .ref (a 14)) (C := RX7) (T := TX7) (N := 29) hx hb htg ig_7 hown hK hP 0 (oh_wg (Nat.lt_of_lt_of_le (by decide) hn) (sM_0 hT)) rfl 18 (by decide) (htg _ q_991) (fun _ h9 => h9) rfl dX7_begin_68 ?_
        refine lv_iconst (v := 5) hx hb dX7_begin_71 (by decide) ?_
        refine lv_iconst (v := 0) hx hb dX7_begin_72 (by decide) ?_
        refine th_iast (T := TyM a E) (Rl := fr [(8, 9), (14, 15)] [19] C) hx hb hK hP hD hS 14 (Nat.lt_of_lt_of_le (by decide) hn) (sM_14 hT) (rg_in (rg_c (v := 5) (lo := 5) (hi := 5) (by decide)) (by decide)) (hT.up 14 (by decide) (tA_upd (tM_14 hT) (tA_stc (show _ = 5 by decide) (rg_c (v := 0) (lo := 0) (hi := 0) (by decide)) (by decide)))) (fr_st hF (by decide) (by decide)) dX7_begin_73 (fun C_40 H locs e_41 hT hF hP hD hS => ?_)
        have t_42 := hT
        refine lv_aload_n hx hb dX7_begin_74 rfl (lv_at hl 0 rfl) ?_
        refine va_get (D := D) (ci := 7) (v := .ref (a 14)) (C := RX7) (T := TX7) (N := 29) hx hb htg ig_7 hown hK hP 0 (oh_wg (Nat.lt_of_lt_of_le (by decide) hn) (sM_0 hT)) rfl 18 (by decide) (htg _ q_991) (fun _ h9 => h9) rfl dX7_begin_75 ?_
        refine lv_bipush (v := 6) hx hb dX7_begin_78 (by decide) ?_
        refine lv_iconst (v := 0) hx hb dX7_begin_80 (by decide) ?_
        refine th_iast (T := TyM a E) (Rl := fr [(8, 9), (14, 15)] [19] C) hx hb hK hP hD hS 14 (Nat.lt_of_lt_of_le (by decide) hn) (sM_14 hT) (rg_in (rg_c (v := 6) (lo := 6) (hi := 6) (by decide)) (by decide)) (hT.up 14 (by decide) (tA_upd (tM_14 hT) (tA_stc (show _ = 6 by decide) (rg_c (v := 0) (lo := 0) (hi := 0) (by decide)) (by decide)))) (fr_st hF (by decide) (by decide)) dX7_begin_81 (fun C_43 H locs e_44 hT hF hP hD hS => ?_)
        have t_45 := hT
        refine lv_aload_n hx hb dX7_begin_82 rfl (lv_at hl 0 rfl) ?_
        refine lv_aload_n hx hb dX7_begin_83 rfl (lv_at hl 0 rfl) ?_
        refine lv_iload_n hx hb dX7_begin_84 rfl (lv_at hl 2 rfl) ?_
        refine tq_V (As := [.int x2]) (rest := [.ref (a 0)]) (ws := (oh_W n a C_43)) ⟨hx, hb, hml, hown, htg⟩ (e_X7_partsCoin l D E G a C_43 n hn hT x2) (cwV 1 htg (oh_gV q_1356 q_1358 q_61 q_73 q_1359) rfl rfl rfl pdVX7_partsCoin ⟨Nat.le_of_ble_eq_true rfl, Nat.le_of_ble_eq_true rfl⟩) hK hP hG hS (va_recv hK hP (ci := 7) (q0 := 0) rfl (oh_wg (Nat.lt_of_lt_of_le (by decide) hn) (sM_0 hT))) rfl hl.1 rfl (Nat.le_of_ble_eq_true rfl) dX7_begin_85 ⟨Nat.le_of_ble_eq_true rfl, Nat.le_of_ble_eq_true rfl⟩ (fun r_46 hq_47 => ?_)
        refine th_put (Tp := TyM a E) (Rl := fr [(8, 9), (14, 15)] [19] C) (ci := 7) (v := .int r_46) (ty := .int) (CC := RX7) (T := TX7) (N := 29) hx hb htg ig_7 tyX7 tyX7_ok nmX7 hown hK hP hD hS 0 (Nat.lt_of_lt_of_le (by decide) hn) (sM_0 hT) rfl 19 (by decide) (htg _ q_992) (fun _ h9 => h9) rfl (by decide +kernel) rfl rfl (Nat.le_of_ble_eq_true rfl) (hT.up 0 (by decide) ⟨rfl, (fM_0_7 hT), (fM_0_9 hT), (fM_0_11 hT), (fM_0_13 hT), (fM_0_15 hT), (fM_0_21 hT), (fM_0_23 hT)⟩) (fr_fd hF (sM_0 hT) (by decide)) dX7_begin_88 (fun C_48 H locs e_49 hT hF hP hD hS => ?_)
        have t_50 := hT
        refine lv_iconst (v := 1) hx hb dX7_begin_91 (by decide) ?_
        rw [hQ]
        exact W.iret (v := 1) hx hb hr (fun t ht hW => ⟨⟨1, C_48, rfl, ⟨hT, hF, ⟨⟨relW_mk hR.1 hF (by decide) (fun _ => by rw [(th_un e_49 (by decide)), (st_ga e_44), pk_un (by decide), (st_ga e_41), pk_un (by decide), (st_ga e_38), pk_un (by decide), (st_ga e_35), pk_un (by decide), (st_ga e_32), pk_un (by decide), (st_ga e_29)]; exact u_10.2.2.1), hR.2.fr hF (by decide)⟩, (fun A hA => by unfold spBegin; rw [← (show gi (C 0) 13 = A 5 0 2 from hA.1 2 (by decide)), ← (show gi (C 0) 15 = A 5 0 3 from hA.1 3 (by decide))]; exact (pif_pos ⟨u_10.2.2.2, (oh_rgI (p := 0) (q := 15) (rg_w (lo := 0) (hi := 15) u_20 (by decide))), (oh_rgI (p := 0) (q := 15) (rg_w (lo := 0) (hi := 15) u_24 (by decide)))⟩).symm), (fun A T hA hT => by have hj : okJ A x1 x2 x3 x4 := (by unfold okJ; rw [← (show gi (C 0) 13 = A 5 0 2 from hA.1 2 (by decide)), ← (show gi (C 0) 15 = A 5 0 3 from hA.1 3 (by decide))]; exact ⟨u_10.2.2.2, (oh_rgI (p := 0) (q := 15) (rg_w (lo := 0) (hi := 15) u_20 (by decide))), (oh_rgI (p := 0) (q := 15) (rg_w (lo := 0) (hi := 15) u_24 (by decide)))⟩); rw [show bgT A x1 x2 x3 x4 T = bgR x1 x2 x3 x4 (sumA A x2 1 (A 5 0 3).toNatClampNeg) from pif_pos hj]; exact tm_mk (show ga (C_48 14) ((0 : Int32)).toNatClampNeg = (1 : Int32) from (by rw [show C_48 14 = C_43 14 from th_un e_49 (by decide), st_ga e_44, pk_un (by decide), st_ga e_41, pk_un (by decide), st_ga e_38, pk_un (by decide), st_ga e_35, pk_un (by decide), st_ga e_32, pk_un (by decide), st_ga e_29, pk_un (by decide), st_ga e_26, pk_us])) (show ga (C_48 14) ((1 : Int32)).toNatClampNeg = x1 from (by rw [show C_48 14 = C_43 14 from th_un e_49 (by decide), st_ga e_44, pk_un (by decide), st_ga e_41, pk_un (by decide), st_ga e_38, pk_un (by decide), st_ga e_35, pk_un (by decide), st_ga e_32, pk_un (by decide), st_ga e_29, pk_us])) (show ga (C_48 14) ((2 : Int32)).toNatClampNeg = x2 from (by rw [show C_48 14 = C_43 14 from th_un e_49 (by decide), st_ga e_44, pk_un (by decide), st_ga e_41, pk_un (by decide), st_ga e_38, pk_un (by decide), st_ga e_35, pk_un (by decide), st_ga e_32, pk_us])) (show ga (C_48 14) ((3 : Int32)).toNatClampNeg = x3 from (by rw [show C_48 14 = C_43 14 from th_un e_49 (by decide), st_ga e_44, pk_un (by decide), st_ga e_41, pk_un (by decide), st_ga e_38, pk_un (by decide), st_ga e_35, pk_us])) (show ga (C_48 14) ((4 : Int32)).toNatClampNeg = x4 from (by rw [show C_48 14 = C_43 14 from th_un e_49 (by decide), st_ga e_44, pk_un (by decide), st_ga e_41, pk_un (by decide), st_ga e_38, pk_us])) (show ga (C_48 14) ((5 : Int32)).toNatClampNeg = (0 : Int32) from (by rw [show C_48 14 = C_43 14 from th_un e_49 (by decide), st_ga e_44, pk_un (by decide), st_ga e_41, pk_us])) (show ga (C_48 14) ((6 : Int32)).toNatClampNeg = (0 : Int32) from (by rw [show C_48 14 = C_43 14 from th_un e_49 (by decide), st_ga e_44, pk_us])) (Eq.trans (show gi (C_48 0) 19 = r_46 by rw [e_49]; rfl) (hq_47 A (absM_fr hA hT0 (show fr [(14, 15)] [] C C_43 from (fr_ste (fr_ste (fr_ste (fr_ste (fr_ste (fr_ste (fr_ste fr_rf e_26 (by decide) (by decide)) e_29 (by decide) (by decide)) e_32 (by decide) (by decide)) e_35 (by decide) (by decide)) e_38 (by decide) (by decide)) e_41 (by decide) (by decide)) e_44 (by decide) (by decide))) (by decide) (by decide) (by decide)))))⟩⟩, ⟨by rw [ht]; exact hP, hD⟩⟩, hS.F ht⟩) hS.2.2 dX7_begin_92
      · have u_51 := hq_22.2.2 c_23
        refine lv_aload_n hx hb dX7_begin_24 rfl (lv_at hl 0 rfl) ?_
        refine lv_bipush (v := (-2)) hx hb dX7_begin_25 (by decide) ?_
        refine tm_V (As := [.int (-2)]) (rest := []) ⟨hx, hb, hml, hown, htg⟩ (c_X7_refuse l D E G _ a C n hn hT ((-2) : Int32) (rg_w (rg_c (v := (-2)) (lo := (-2)) (hi := (-2)) (by decide)) (by decide))) (cwV 1 htg (oh_gV q_1071 q_1073 q_29 q_73 q_1074) rfl rfl rfl pdVX7_refuse ⟨Nat.le_of_ble_eq_true rfl, Nat.le_of_ble_eq_true rfl⟩) hK hP hD hG hS hA (va_recv hK hP (ci := 7) (q0 := 0) rfl (oh_wg (Nat.lt_of_lt_of_le (by decide) hn) (sM_0 hT))) rfl hl.1 rfl (Nat.le_of_ble_eq_true rfl) dX7_begin_27 ⟨Nat.le_of_ble_eq_true rfl, Nat.le_of_ble_eq_true rfl⟩ (fun r_52 C_53 H locs hq_54 hP hD hS => ?_)
        obtain ⟨hT, f_55, hq_54⟩ := hq_54
        have hF := fr_tr hF f_55 (by decide) (by decide)
        refine W.widen (k := 0) (n := 0) (Nat.le_refl _) (Nat.le_refl _) ?_
        have t_56 := hT
        rw [hQ]
        exact W.iret (v := r_52) hx hb hr (fun t ht hW => ⟨⟨r_52, C_53, rfl, ⟨hT, hF, ⟨⟨(RelW.fr hR.1 f_55 (by decide)), hR.2.fr hF (by decide)⟩, (fun A hA => by unfold spBegin; rw [← (show gi (C 0) 13 = A 5 0 2 from hA.1 2 (by decide)), ← (show gi (C 0) 15 = A 5 0 3 from hA.1 3 (by decide))]; exact Eq.trans hq_54 (pif_neg (fun h8 => u_51 h8.2.2)).symm), (fun A T hA hT => by rw [show bgT A x1 x2 x3 x4 T = T from pif_neg (by unfold okJ; rw [← (show gi (C 0) 13 = A 5 0 2 from hA.1 2 (by decide)), ← (show gi (C 0) 15 = A 5 0 3 from hA.1 3 (by decide))]; exact (fun h8 => u_51 h8.2.2))]; exact (absTM_eq hT (f_55.1 14 rfl (by decide)) (show gi (C_53 0) 19 = gi (C 0) 19 from (congrArg vi (f_55.2 19 (by decide))))))⟩⟩, ⟨by rw [ht]; exact hP, hD⟩⟩, hS.F ht⟩) hS.2.2 dX7_begin_30

theorem un_x {C : Nat → va_E} {T : TP} {x : Int32} (hT : absTX 1 16 C T) (ok : 0 ≤ x ∧ x ≤ 4) (hx : rg x 0 4) (c : ¬ gi (C 1) 7 = 0) : ga (C 16) x.toNatClampNeg = spUnd T x := by
  obtain ⟨t0, t1, t2, t3, t4, t5, t6, t7⟩ := hT
  unfold spUnd
  rw [pif_pos ok, pif_neg (fun e => c (t0.trans e))]
  have e := oh_nat hx (by decide)
  have h2 := hx.2
  have K : ∀ k : Int32, x.toInt = k.toInt → x = k := fun k q => Int32.toInt_inj.mp q
  rcases (show x.toInt = 0 ∨ x.toInt = 1 ∨ x.toInt = 2 ∨ x.toInt = 3 ∨ x.toInt = 4 by have := hx.1; omega) with q | q | q | q | q
  · rw [K 0 q, pif_pos rfl]
    exact t3
  · rw [K 1 q, pif_neg (by decide), pif_pos rfl]
    exact t4
  · rw [K 2 q, pif_neg (by decide), pif_neg (by decide), pif_pos rfl]
    exact t7
  · rw [K 3 q, pif_neg (by decide), pif_neg (by decide), pif_neg (by decide), pif_pos rfl]
    exact t5
  · rw [K 4 q, pif_neg (by decide), pif_neg (by decide), pif_neg (by decide), pif_neg (by decide)]
    exact t6

set_option maxHeartbeats 4000000 in
set_option maxRecDepth 100000 in
theorem e_X6_under (l : Launch) (D : va_G) (E : Nat → ClassId) (G : Nat → Nat) (sz : Nat) (a : Nat → Nat) (C : Nat → va_E) (hT : TyX a E C) (x1 : Int32) : Met l yX6_under (oh_w yX6_under cX6_under 2 (some .int)) ({ frames := 2, cells := 0, slots := 0, locals := 44 }) (oh_Pm D E G [.ref (a 0), .int x1] (oh_W 35 a C) sz) (va_Qi (fun r (u : Nat → va_E) => TyX a E u ∧ fr [(7, 8)] [] C u ∧ (∀ T : TP, absTX 1 16 C T → r = spUnd T x1)) (oh_B D (va_A (oh_W 35 a C) sz) (fun u => oh_W 35 a u)) (va_A (oh_W 35 a C) sz)) 0 0 (va_A (oh_W 35 a C) sz) := by
  refine Met.ofW (cc := cX6_under) (maxL := 2) (ret := (some .int)) (by decide) rfl ?_
  intro p e s m args below meth c s₁ B hml hv
  obtain ⟨rfl, hsz, hP, hK, hD0, hG⟩ := hv
  have hx := B.exec
  have hb := B.bytes
  have hr := B.returns
  have hts := atoms_spec (ws := (oh_w yX6_under cX6_under 2 (some .int))) B.pre
  have htg : ∀ w ∈ oh_t, w.before _ s = true := fun w h => hts w (List.mem_cons_of_mem _ h)
  have hown : s.vm.findClass RX6 = some m.cls := findClass_of_methodNamed B.named
  have hlocks := B.notSynchronized
  have hT0 := hT
  subst hsz
  have hD := hD0.self (sz := s.heap.size)
  generalize hAe : va_A (oh_W 35 a C) s.heap.size = A at hD hG ⊢
  have hA : ∀ q : Nat, s.heap.size ≤ q → A q := fun q h => by rw [← hAe]; exact Or.inr h
  have hS : va_S A s.heap s.heap [] := va_S.rf
  have hF : fr [(7, 8)] [] C C := fr_rf
  have hl := lv_entry ([.ref (a 0), .int x1]) (n := 2) (Nat.le_of_ble_eq_true rfl)
  rw [lg_entry_eq]
  generalize (lg_sl ([.ref (a 0), .int x1]) ++ List.replicate (2 - (lg_sl ([.ref (a 0), .int x1])).length) Slot.unset).toArray = ls at hl ⊢
  have hl : lv_has ls 2 [(0, .ref (a 0)), (1, .int x1)] := hl
  refine oh_genQ (fun Q hQ => ?_)
  refine lv_iload_n hx hb dX6_under_0 rfl (lv_at hl 1 rfl) ?_
  refine lv_iconst (v := 0) hx hb dX6_under_1 (by decide) ?_
  refine lv_iconst (v := 4) hx hb dX6_under_2 (by decide) ?_
  refine tq_S (As := [.int x1, .int 0, .int 4]) (rest := []) (ws := []) ⟨hx, hb, hml, hown, htg⟩ (c_X6_within l D E G x1 (0 : Int32) (4 : Int32)) (va_cwS 3 htg (oh_gS q_293 q_294 q_66 q_295) rfl rfl rfl pdX6_within ⟨Nat.le_of_ble_eq_true rfl, Nat.le_of_ble_eq_true rfl⟩) hK va_nil hG hS rfl hl.1 rfl (Nat.le_of_ble_eq_true rfl) dX6_under_3 ⟨Nat.le_of_ble_eq_true rfl, Nat.le_of_ble_eq_true rfl⟩ (fun r_1 hq_2 => ?_)
  refine lv_if_ne (tgt := 16) hx hb dX6_under_6 (by decide) (fun (c_3 : ¬ (r_1 = 0)) => ?_) (fun (c_3 : r_1 = 0) => ?_)
  · have u_4 := hq_2.2.1 c_3
    refine lv_aload_n hx hb dX6_under_16 rfl (lv_at hl 0 rfl) ?_
    refine va_get (D := D) (ci := 6) (v := .ref (a 1)) (C := RX6) (T := TX6) (N := 9) hx hb htg ig_6 hown hK hP 0 (oh_wg (by decide) (sX_0 hT)) rfl 0 (by decide) (htg _ q_258) (fun _ h9 => h9) rfl dX6_under_17 ?_
    refine va_get (D := D) (ci := 0) (v := .int (gi (C 1) 7)) (C := RX0) (T := TX0) (N := 8) hx hb htg ig_0 hown hK hP 1 (oh_wg (by decide) (sX_1 hT)) rfl 7 (by decide) (htg _ q_114) (fun _ h9 => h9) rfl dX6_under_20 ?_
    refine lv_if_eq (tgt := 38) hx hb dX6_under_23 (by decide) (fun (c_5 : (gi (C 1) 7) = 0) => ?_) (fun (c_5 : ¬ ((gi (C 1) 7) = 0)) => ?_)
    · refine lv_aload_n hx hb dX6_under_38 rfl (lv_at hl 0 rfl) ?_
      refine lv_bipush (v := (-5)) hx hb dX6_under_39 (by decide) ?_
      refine tm_V (As := [.int (-5)]) (rest := []) ⟨hx, hb, hml, hown, htg⟩ (c_X6_refuse l D E G _ a C hT ((-5) : Int32)) (cwV 1 htg (oh_gV q_296 q_298 q_0 q_66 q_299) rfl rfl rfl pdVX6_refuse ⟨Nat.le_of_ble_eq_true rfl, Nat.le_of_ble_eq_true rfl⟩) hK hP hD hG hS hA (va_recv hK hP (ci := 6) (q0 := 0) rfl (oh_wg (by decide) (sX_0 hT))) rfl hl.1 rfl (Nat.le_of_ble_eq_true rfl) dX6_under_41 ⟨Nat.le_of_ble_eq_true rfl, Nat.le_of_ble_eq_true rfl⟩ (fun r_6 C_7 H locs hq_8 hP hD hS => ?_)
      obtain ⟨hT, f_9, hq_8⟩ := hq_8
      have hF := fr_tr hF f_9 (by decide) (by decide)
      refine W.widen (k := 0) (n := 0) (Nat.le_refl _) (Nat.le_refl _) ?_
      have t_10 := hT
      rw [hQ]
      exact W.iret (v := r_6) hx hb hr (fun t ht hW => ⟨⟨r_6, C_7, rfl, ⟨hT, hF, (fun T hT => by obtain ⟨t0, t1, t2, t3, t4, t5, t6, t7⟩ := hT; exact Eq.trans hq_8 (Eq.trans (pif_pos (oh_rgI (p := 0) (q := 4) (rg_w (lo := 0) (hi := 4) (rn_leu u_4.2 (rn_lel u_4.1 (rg_c (v := 0) (lo := 0) (hi := 0) (by decide)) (rg_any _)) (rg_c (v := 4) (lo := 4) (hi := 4) (by decide))) (by decide)))) (pif_pos (Eq.trans t0.symm c_5))).symm)⟩, ⟨by rw [ht]; exact hP, hD⟩⟩, hS.F ht⟩) hS.2.2 dX6_under_44
    · refine lv_aload_n hx hb dX6_under_26 rfl (lv_at hl 0 rfl) ?_
      refine va_get (D := D) (ci := 6) (v := .ref (a 1)) (C := RX6) (T := TX6) (N := 9) hx hb htg ig_6 hown hK hP 0 (oh_wg (by decide) (sX_0 hT)) rfl 0 (by decide) (htg _ q_258) (fun _ h9 => h9) rfl dX6_under_27 ?_
      refine va_get (D := D) (ci := 0) (v := .ref (a 16)) (C := RX0) (T := TX0) (N := 8) hx hb htg ig_0 hown hK hP 1 (oh_wg (by decide) (sX_1 hT)) rfl 6 (by decide) (htg _ q_112) (fun _ h9 => h9) rfl dX6_under_30 ?_
      refine lv_iload_n hx hb dX6_under_33 rfl (lv_at hl 1 rfl) ?_
      have n_11 : vp_in x1 7 := (rg_in (rn_leu u_4.2 (rn_lel u_4.1 (rg_c (v := 0) (lo := 0) (hi := 0) (by decide)) (rg_any _)) (rg_c (v := 4) (lo := 4) (hi := 4) (by decide))) (by decide))
      refine th_iald hx hb hK hP 16 (by decide) (sX_16 hT) n_11 dX6_under_34 ?_
      refine lv_goto (tgt := 44) hx hb dX6_under_35 (by decide) ?_
      rw [hQ]
      exact W.iret (v := ga (C 16) (x1).toNatClampNeg) hx hb hr (fun t ht hW => ⟨⟨ga (C 16) (x1).toNatClampNeg, C, rfl, ⟨hT, hF, (fun T hT => un_x hT (oh_rgI (p := 0) (q := 4) (rg_w (lo := 0) (hi := 4) (rn_leu u_4.2 (rn_lel u_4.1 (rg_c (v := 0) (lo := 0) (hi := 0) (by decide)) (rg_any _)) (rg_c (v := 4) (lo := 4) (hi := 4) (by decide))) (by decide))) (rg_w (lo := 0) (hi := 4) (rn_leu u_4.2 (rn_lel u_4.1 (rg_c (v := 0) (lo := 0) (hi := 0) (by decide)) (rg_any _)) (rg_c (v := 4) (lo := 4) (hi := 4) (by decide))) (by decide)) c_5)⟩, ⟨by rw [ht]; exact hP, hD⟩⟩, hS.F ht⟩) hS.2.2 dX6_under_44
  · have u_12 := hq_2.2.2 c_3
    refine lv_aload_n hx hb dX6_under_9 rfl (lv_at hl 0 rfl) ?_
    refine lv_bipush (v := (-2)) hx hb dX6_under_10 (by decide) ?_
    refine tm_V (As := [.int (-2)]) (rest := []) ⟨hx, hb, hml, hown, htg⟩ (c_X6_refuse l D E G _ a C hT ((-2) : Int32)) (cwV 1 htg (oh_gV q_296 q_298 q_0 q_66 q_299) rfl rfl rfl pdVX6_refuse ⟨Nat.le_of_ble_eq_true rfl, Nat.le_of_ble_eq_true rfl⟩) hK hP hD hG hS hA (va_recv hK hP (ci := 6) (q0 := 0) rfl (oh_wg (by decide) (sX_0 hT))) rfl hl.1 rfl (Nat.le_of_ble_eq_true rfl) dX6_under_12 ⟨Nat.le_of_ble_eq_true rfl, Nat.le_of_ble_eq_true rfl⟩ (fun r_13 C_14 H locs hq_15 hP hD hS => ?_)
    obtain ⟨hT, f_16, hq_15⟩ := hq_15
    have hF := fr_tr hF f_16 (by decide) (by decide)
    refine W.widen (k := 0) (n := 0) (Nat.le_refl _) (Nat.le_refl _) ?_
    have t_17 := hT
    rw [hQ]
    exact W.iret (v := r_13) hx hb hr (fun t ht hW => ⟨⟨r_13, C_14, rfl, ⟨hT, hF, (fun T hT => Eq.trans hq_15 (pif_neg u_12).symm)⟩, ⟨by rw [ht]; exact hP, hD⟩⟩, hS.F ht⟩) hS.2.2 dX6_under_15

set_option maxHeartbeats 4000000 in
set_option maxRecDepth 100000 in
theorem e_X7_under (l : Launch) (D : va_G) (E : Nat → ClassId) (G : Nat → Nat) (sz : Nat) (a : Nat → Nat) (C : Nat → va_E) (n : Nat) (hn : 74 ≤ n) (hT : TyM a E C) (x1 : Int32) (hR : RelM C) : Met l yX7_under (oh_w yX7_under cX7_under 2 (some .int)) ({ frames := 1, cells := 0, slots := 0, locals := 25 }) (oh_Pm D E G [.ref (a 0), .int x1] (oh_W n a C) sz) (va_Qi (fun r (u : Nat → va_E) => TyM a E u ∧ fr [(8, 9)] [] C u ∧ (RelM u) ∧ (∀ T : TP, absTM C T → r = spUnd T x1)) (oh_B D (va_A (oh_W n a C) sz) (fun u => oh_W n a u)) (va_A (oh_W n a C) sz)) 0 0 (va_A (oh_W n a C) sz) := by
  refine Met.ofW (cc := cX7_under) (maxL := 2) (ret := (some .int)) (by decide) rfl ?_
  intro p e s m args below meth c s₁ B hml hv
  obtain ⟨rfl, hsz, hP, hK, hD0, hG⟩ := hv
  have hx := B.exec
  have hb := B.bytes
  have hr := B.returns
  have hts := atoms_spec (ws := (oh_w yX7_under cX7_under 2 (some .int))) B.pre
  have htg : ∀ w ∈ oh_t, w.before _ s = true := fun w h => hts w (List.mem_cons_of_mem _ h)
  have hown : s.vm.findClass RX7 = some m.cls := findClass_of_methodNamed B.named
  have hlocks := B.notSynchronized
  have hT0 := hT
  subst hsz
  have hD := hD0.self (sz := s.heap.size)
  generalize hAe : va_A (oh_W n a C) s.heap.size = A at hD hG ⊢
  have hA : ∀ q : Nat, s.heap.size ≤ q → A q := fun q h => by rw [← hAe]; exact Or.inr h
  have hS : va_S A s.heap s.heap [] := va_S.rf
  have hF : fr [(8, 9)] [] C C := fr_rf
  have hl := lv_entry ([.ref (a 0), .int x1]) (n := 2) (Nat.le_of_ble_eq_true rfl)
  rw [lg_entry_eq]
  generalize (lg_sl ([.ref (a 0), .int x1]) ++ List.replicate (2 - (lg_sl ([.ref (a 0), .int x1])).length) Slot.unset).toArray = ls at hl ⊢
  have hl : lv_has ls 2 [(0, .ref (a 0)), (1, .int x1)] := hl
  refine oh_genQ (fun Q hQ => ?_)
  refine lv_iload_n hx hb dX7_under_0 rfl (lv_at hl 1 rfl) ?_
  refine lv_i2l (v := Int32.toInt64 x1) hx hb dX7_under_1 (by rfl) ?_
  refine lv_lconst (v := 0) hx hb dX7_under_2 (by decide) ?_
  refine lv_ldc2 (v := 4) hx hb hown (htg _ q_1069) dX7_under_3 ?_
  refine tq_S (As := [.long (Int32.toInt64 x1), .long 0, .long 4]) (rest := []) (ws := []) ⟨hx, hb, hml, hown, htg⟩ (c_X7_in l D E G (Int32.toInt64 x1) (0 : Int64) (4 : Int64)) (va_cwS 3 htg (oh_gS q_1066 q_1067 q_73 q_1068) rfl rfl rfl pdX7_in ⟨Nat.le_of_ble_eq_true rfl, Nat.le_of_ble_eq_true rfl⟩) hK va_nil hG hS rfl hl.1 rfl (Nat.le_of_ble_eq_true rfl) dX7_under_6 ⟨Nat.le_of_ble_eq_true rfl, Nat.le_of_ble_eq_true rfl⟩ (fun r_1 hq_2 => ?_)
  refine lv_if_ne (tgt := 19) hx hb dX7_under_9 (by decide) (fun (c_3 : ¬ (r_1 = 0)) => ?_) (fun (c_3 : r_1 = 0) => ?_)
  · have u_4 := hq_2.2.1 c_3
    refine lv_aload_n hx hb dX7_under_19 rfl (lv_at hl 0 rfl) ?_
    refine va_get (D := D) (ci := 7) (v := .ref (a 14)) (C := RX7) (T := TX7) (N := 29) hx hb htg ig_7 hown hK hP 0 (oh_wg (Nat.lt_of_lt_of_le (by decide) hn) (sM_0 hT)) rfl 18 (by decide) (htg _ q_991) (fun _ h9 => h9) rfl dX7_under_20 ?_
    refine lv_iconst (v := 0) hx hb dX7_under_23 (by decide) ?_
    refine th_iald hx hb hK hP 14 (Nat.lt_of_lt_of_le (by decide) hn) (sM_14 hT) (rg_in (rg_c (v := 0) (lo := 0) (hi := 0) (by decide)) (by decide)) dX7_under_24 ?_
    refine lv_if_ne (tgt := 35) hx hb dX7_under_25 (by decide) (fun (c_5 : ¬ ((ga (C 14) ((0 : Int32)).toNatClampNeg) = 0)) => ?_) (fun (c_5 : (ga (C 14) ((0 : Int32)).toNatClampNeg) = 0) => ?_)
    · refine lv_iload_n hx hb dX7_under_35 rfl (lv_at hl 1 rfl) ?_
      by_cases c_6 : x1 = 0
      · refine lv_tableIn (off := 32) (tgt := 68) hx hb dX7_under_36 (by rw [c_6]; decide) (by rw [c_6]; decide) (by rw [c_6]; decide) (by decide) ?_
        refine lv_aload_n hx hb dX7_under_68 rfl (lv_at hl 0 rfl) ?_
        refine va_get (D := D) (ci := 7) (v := .ref (a 14)) (C := RX7) (T := TX7) (N := 29) hx hb htg ig_7 hown hK hP 0 (oh_wg (Nat.lt_of_lt_of_le (by decide) hn) (sM_0 hT)) rfl 18 (by decide) (htg _ q_991) (fun _ h9 => h9) rfl dX7_under_69 ?_
        refine lv_iconst (v := 3) hx hb dX7_under_72 (by decide) ?_
        refine th_iald hx hb hK hP 14 (Nat.lt_of_lt_of_le (by decide) hn) (sM_14 hT) (rg_in (rg_c (v := 3) (lo := 3) (hi := 3) (by decide)) (by decide)) dX7_under_73 ?_
        rw [hQ]
        exact W.iret (v := ga (C 14) ((3 : Int32)).toNatClampNeg) hx hb hr (fun t ht hW => ⟨⟨ga (C 14) ((3 : Int32)).toNatClampNeg, C, rfl, ⟨hT, hF, ⟨hR, (fun T hT => by unfold spUnd; rw [pif_pos (oh_rgI (p := 0) (q := 4) (rg_w (lo := 0) (hi := 4) (rn_eq c_6 (rg_c (v := 0) (lo := 0) (hi := 0) (by decide))) (by decide))), pif_neg (fun e => c_5 (Eq.trans (show ga (C 14) ((0 : Int32)).toNatClampNeg = T 0 from hT.1 0 (by decide)) e)), c_6, pif_pos rfl]; exact hT.1 3 (by decide))⟩⟩, ⟨by rw [ht]; exact hP, hD⟩⟩, hS.F ht⟩) hS.2.2 dX7_under_74
      · by_cases c_7 : x1 = 1
        · refine lv_tableIn (off := 39) (tgt := 75) hx hb dX7_under_36 (by rw [c_7]; decide) (by rw [c_7]; decide) (by rw [c_7]; decide) (by decide) ?_
          refine lv_aload_n hx hb dX7_under_75 rfl (lv_at hl 0 rfl) ?_
          refine va_get (D := D) (ci := 7) (v := .ref (a 14)) (C := RX7) (T := TX7) (N := 29) hx hb htg ig_7 hown hK hP 0 (oh_wg (Nat.lt_of_lt_of_le (by decide) hn) (sM_0 hT)) rfl 18 (by decide) (htg _ q_991) (fun _ h9 => h9) rfl dX7_under_76 ?_
          refine lv_iconst (v := 4) hx hb dX7_under_79 (by decide) ?_
          refine th_iald hx hb hK hP 14 (Nat.lt_of_lt_of_le (by decide) hn) (sM_14 hT) (rg_in (rg_c (v := 4) (lo := 4) (hi := 4) (by decide)) (by decide)) dX7_under_80 ?_
          rw [hQ]
          exact W.iret (v := ga (C 14) ((4 : Int32)).toNatClampNeg) hx hb hr (fun t ht hW => ⟨⟨ga (C 14) ((4 : Int32)).toNatClampNeg, C, rfl, ⟨hT, hF, ⟨hR, (fun T hT => by unfold spUnd; rw [pif_pos (oh_rgI (p := 0) (q := 4) (rg_w (lo := 0) (hi := 4) (rn_eq c_7 (rg_c (v := 1) (lo := 1) (hi := 1) (by decide))) (by decide))), pif_neg (fun e => c_5 (Eq.trans (show ga (C 14) ((0 : Int32)).toNatClampNeg = T 0 from hT.1 0 (by decide)) e)), c_7, pif_neg (by decide), pif_pos rfl]; exact hT.1 4 (by decide))⟩⟩, ⟨by rw [ht]; exact hP, hD⟩⟩, hS.F ht⟩) hS.2.2 dX7_under_81
        · by_cases c_8 : x1 = 2
          · refine lv_tableIn (off := 46) (tgt := 82) hx hb dX7_under_36 (by rw [c_8]; decide) (by rw [c_8]; decide) (by rw [c_8]; decide) (by decide) ?_
            refine lv_aload_n hx hb dX7_under_82 rfl (lv_at hl 0 rfl) ?_
            refine va_get (D := D) (ci := 7) (v := .int (gi (C 0) 19)) (C := RX7) (T := TX7) (N := 29) hx hb htg ig_7 hown hK hP 0 (oh_wg (Nat.lt_of_lt_of_le (by decide) hn) (sM_0 hT)) rfl 19 (by decide) (htg _ q_992) (fun _ h9 => h9) rfl dX7_under_83 ?_
            rw [hQ]
            exact W.iret (v := gi (C 0) 19) hx hb hr (fun t ht hW => ⟨⟨gi (C 0) 19, C, rfl, ⟨hT, hF, ⟨hR, (fun T hT => by unfold spUnd; rw [pif_pos (oh_rgI (p := 0) (q := 4) (rg_w (lo := 0) (hi := 4) (rn_eq c_8 (rg_c (v := 2) (lo := 2) (hi := 2) (by decide))) (by decide))), pif_neg (fun e => c_5 (Eq.trans (show ga (C 14) ((0 : Int32)).toNatClampNeg = T 0 from hT.1 0 (by decide)) e)), c_8, pif_neg (by decide), pif_neg (by decide), pif_pos rfl]; exact hT.2)⟩⟩, ⟨by rw [ht]; exact hP, hD⟩⟩, hS.F ht⟩) hS.2.2 dX7_under_86
          · by_cases c_9 : x1 = 3
            · refine lv_tableIn (off := 51) (tgt := 87) hx hb dX7_under_36 (by rw [c_9]; decide) (by rw [c_9]; decide) (by rw [c_9]; decide) (by decide) ?_
              refine lv_aload_n hx hb dX7_under_87 rfl (lv_at hl 0 rfl) ?_
              refine va_get (D := D) (ci := 7) (v := .ref (a 14)) (C := RX7) (T := TX7) (N := 29) hx hb htg ig_7 hown hK hP 0 (oh_wg (Nat.lt_of_lt_of_le (by decide) hn) (sM_0 hT)) rfl 18 (by decide) (htg _ q_991) (fun _ h9 => h9) rfl dX7_under_88 ?_
              refine lv_iconst (v := 5) hx hb dX7_under_91 (by decide) ?_
              refine th_iald hx hb hK hP 14 (Nat.lt_of_lt_of_le (by decide) hn) (sM_14 hT) (rg_in (rg_c (v := 5) (lo := 5) (hi := 5) (by decide)) (by decide)) dX7_under_92 ?_
              rw [hQ]
              exact W.iret (v := ga (C 14) ((5 : Int32)).toNatClampNeg) hx hb hr (fun t ht hW => ⟨⟨ga (C 14) ((5 : Int32)).toNatClampNeg, C, rfl, ⟨hT, hF, ⟨hR, (fun T hT => by unfold spUnd; rw [pif_pos (oh_rgI (p := 0) (q := 4) (rg_w (lo := 0) (hi := 4) (rn_eq c_9 (rg_c (v := 3) (lo := 3) (hi := 3) (by decide))) (by decide))), pif_neg (fun e => c_5 (Eq.trans (show ga (C 14) ((0 : Int32)).toNatClampNeg = T 0 from hT.1 0 (by decide)) e)), c_9, pif_neg (by decide), pif_neg (by decide), pif_neg (by decide), pif_pos rfl]; exact hT.1 5 (by decide))⟩⟩, ⟨by rw [ht]; exact hP, hD⟩⟩, hS.F ht⟩) hS.2.2 dX7_under_93
            · refine lv_tableOut (tgt := 94) hx hb dX7_under_36 (by have h9 := And.intro (oh_ne c_6 (k := 0) (by decide)) (And.intro (oh_ne c_7 (k := 1) (by decide)) (And.intro (oh_ne c_8 (k := 2) (by decide)) (And.intro (oh_ne c_9 (k := 3) (by decide)) trivial))); omega) (by decide) ?_
              refine lv_aload_n hx hb dX7_under_94 rfl (lv_at hl 0 rfl) ?_
              refine va_get (D := D) (ci := 7) (v := .ref (a 14)) (C := RX7) (T := TX7) (N := 29) hx hb htg ig_7 hown hK hP 0 (oh_wg (Nat.lt_of_lt_of_le (by decide) hn) (sM_0 hT)) rfl 18 (by decide) (htg _ q_991) (fun _ h9 => h9) rfl dX7_under_95 ?_
              refine lv_bipush (v := 6) hx hb dX7_under_98 (by decide) ?_
              refine th_iald hx hb hK hP 14 (Nat.lt_of_lt_of_le (by decide) hn) (sM_14 hT) (rg_in (rg_c (v := 6) (lo := 6) (hi := 6) (by decide)) (by decide)) dX7_under_100 ?_
              rw [hQ]
              exact W.iret (v := ga (C 14) ((6 : Int32)).toNatClampNeg) hx hb hr (fun t ht hW => ⟨⟨ga (C 14) ((6 : Int32)).toNatClampNeg, C, rfl, ⟨hT, hF, ⟨hR, (fun T hT => by unfold spUnd; rw [pif_pos (oh_rgI (p := 0) (q := 4) (rg_w (lo := 0) (hi := 4) (rg_il (rgL_i (rg_il (rnL_leu u_4.2 (rnL_lel u_4.1 (rgL_c (v := 0) (lo := 0) (hi := 0) (by decide)) (rgL_i (rg_any _))) (rgL_c (v := 4) (lo := 4) (hi := 4) (by decide)))))) (by decide))), pif_neg (fun e => c_5 (Eq.trans (show ga (C 14) ((0 : Int32)).toNatClampNeg = T 0 from hT.1 0 (by decide)) e)), pif_neg c_6, pif_neg c_7, pif_neg c_8, pif_neg c_9]; exact hT.1 6 (by decide))⟩⟩, ⟨by rw [ht]; exact hP, hD⟩⟩, hS.F ht⟩) hS.2.2 dX7_under_101
    · refine lv_aload_n hx hb dX7_under_28 rfl (lv_at hl 0 rfl) ?_
      refine lv_bipush (v := (-5)) hx hb dX7_under_29 (by decide) ?_
      refine tm_V (As := [.int (-5)]) (rest := []) ⟨hx, hb, hml, hown, htg⟩ (c_X7_refuse l D E G _ a C n hn hT ((-5) : Int32) (rg_w (rg_c (v := (-5)) (lo := (-5)) (hi := (-5)) (by decide)) (by decide))) (cwV 1 htg (oh_gV q_1071 q_1073 q_29 q_73 q_1074) rfl rfl rfl pdVX7_refuse ⟨Nat.le_of_ble_eq_true rfl, Nat.le_of_ble_eq_true rfl⟩) hK hP hD hG hS hA (va_recv hK hP (ci := 7) (q0 := 0) rfl (oh_wg (Nat.lt_of_lt_of_le (by decide) hn) (sM_0 hT))) rfl hl.1 rfl (Nat.le_of_ble_eq_true rfl) dX7_under_31 ⟨Nat.le_of_ble_eq_true rfl, Nat.le_of_ble_eq_true rfl⟩ (fun r_10 C_11 H locs hq_12 hP hD hS => ?_)
      obtain ⟨hT, f_13, hq_12⟩ := hq_12
      have hF := fr_tr hF f_13 (by decide) (by decide)
      refine W.widen (k := 0) (n := 0) (Nat.le_refl _) (Nat.le_refl _) ?_
      have t_14 := hT
      rw [hQ]
      exact W.iret (v := r_10) hx hb hr (fun t ht hW => ⟨⟨r_10, C_11, rfl, ⟨hT, hF, ⟨⟨hR.1.fr hF (by decide), hR.2.fr hF (by decide)⟩, (fun T hT => Eq.trans hq_12 (Eq.trans (pif_pos (oh_rgI (p := 0) (q := 4) (rg_w (lo := 0) (hi := 4) (rg_il (rgL_i (rg_il (rnL_leu u_4.2 (rnL_lel u_4.1 (rgL_c (v := 0) (lo := 0) (hi := 0) (by decide)) (rgL_i (rg_any _))) (rgL_c (v := 4) (lo := 4) (hi := 4) (by decide)))))) (by decide)))) (pif_pos (Eq.trans (show ga (C 14) ((0 : Int32)).toNatClampNeg = T 0 from hT.1 0 (by decide)).symm c_5))).symm)⟩⟩, ⟨by rw [ht]; exact hP, hD⟩⟩, hS.F ht⟩) hS.2.2 dX7_under_34
  · have u_15 := hq_2.2.2 c_3
    refine lv_aload_n hx hb dX7_under_12 rfl (lv_at hl 0 rfl) ?_
    refine lv_bipush (v := (-2)) hx hb dX7_under_13 (by decide) ?_
    refine tm_V (As := [.int (-2)]) (rest := []) ⟨hx, hb, hml, hown, htg⟩ (c_X7_refuse l D E G _ a C n hn hT ((-2) : Int32) (rg_w (rg_c (v := (-2)) (lo := (-2)) (hi := (-2)) (by decide)) (by decide))) (cwV 1 htg (oh_gV q_1071 q_1073 q_29 q_73 q_1074) rfl rfl rfl pdVX7_refuse ⟨Nat.le_of_ble_eq_true rfl, Nat.le_of_ble_eq_true rfl⟩) hK hP hD hG hS hA (va_recv hK hP (ci := 7) (q0 := 0) rfl (oh_wg (Nat.lt_of_lt_of_le (by decide) hn) (sM_0 hT))) rfl hl.1 rfl (Nat.le_of_ble_eq_true rfl) dX7_under_15 ⟨Nat.le_of_ble_eq_true rfl, Nat.le_of_ble_eq_true rfl⟩ (fun r_16 C_17 H locs hq_18 hP hD hS => ?_)
    obtain ⟨hT, f_19, hq_18⟩ := hq_18
    have hF := fr_tr hF f_19 (by decide) (by decide)
    refine W.widen (k := 0) (n := 0) (Nat.le_refl _) (Nat.le_refl _) ?_
    have t_20 := hT
    rw [hQ]
    exact W.iret (v := r_16) hx hb hr (fun t ht hW => ⟨⟨r_16, C_17, rfl, ⟨hT, hF, ⟨⟨hR.1.fr hF (by decide), hR.2.fr hF (by decide)⟩, (fun T hT => Eq.trans hq_18 (pif_neg (oh_in64 (l' := 0) (k' := 4) rfl rfl u_15)).symm)⟩⟩, ⟨by rw [ht]; exact hP, hD⟩⟩, hS.F ht⟩) hS.2.2 dX7_under_18
/-! FULL: what is told of bridges, roads, ways -/
noncomputable def spBrOf (A : LA) (b w : Int32) : Int32 := pif ((0 ≤ b ∧ b < A 5 0 1) ∧ (0 ≤ w ∧ w ≤ 9)) (A 1 b.toNatClampNeg w.toNatClampNeg) (-2)
noncomputable def axA (A : LA) (b : Nat) : Int32 := bAxF (A 1 b 1) (A 1 b 3) (A 1 b 8) (A 1 b 9) (A 4 0 2)
noncomputable def alA (A : LA) (b : Nat) : Int32 := bAlF (A 1 b 7 = 1) (A 1 b 1) (A 1 b 4) (A 1 b 5) (A 1 b 8) (A 1 b 9) (A 4 0 2)
noncomputable def spBears (A : LA) (b x : Int32) : Int32 := pif (0 ≤ b ∧ b < A 5 0 1) (pif (x = 0) (axA A b.toNatClampNeg) (alA A b.toNatClampNeg)) (-2)
noncomputable def spNeeds (A : LA) (w s b : Int32) : Int32 := pif (okPk (A 5 0 2) (A 5 0 3) w s ∧ (0 ≤ b ∧ b < A 5 0 1)) (ndA A w s b.toNatClampNeg) (-2)
noncomputable def spGoes (A : LA) (w s r x : Int32) : Int32 := pif (okPk (A 5 0 2) (A 5 0 3) w s ∧ (0 ≤ r ∧ r < A 5 0 0) ∧ (0 ≤ x ∧ x ≤ 4)) (pif (x = 0) (pif (gsA A w s r.toNatClampNeg) 1 0) (pif (x = 3) (engA A w s r.toNatClampNeg) (pif (gsA A w s r.toNatClampNeg) (pif (x = 1) (coA A w s 1 r.toNatClampNeg) (pif (x = 2) (dyA A w s r.toNatClampNeg) (pcA A w s r.toNatClampNeg))) (-5)))) (-2)
noncomputable def spChp (A : LA) (w s f t n : Int32) : Int32 := pif (okJ A w s f t ∧ (1 ≤ n ∧ n ≤ 20)) (pif (hasW (EcA A w s n) f.toNatClampNeg t.toNatClampNeg) (Int32.ofNat (lsN (EcA A w s n) f.toNatClampNeg t.toNatClampNeg) + n * sumA A s 1 (A 5 0 3).toNatClampNeg) (-5)) (-2)
noncomputable def spSoon (A : LA) (w s f t : Int32) : Int32 := pif (okJ A w s f t) (pif (hasW (EdyA A w s) f.toNatClampNeg t.toNatClampNeg) (Int32.ofNat (lsN (EdyA A w s) f.toNatClampNeg t.toNatClampNeg)) (-5)) (-2)

set_option maxHeartbeats 4000000 in
set_option maxRecDepth 100000 in
theorem e_X6_bridgeOf (l : Launch) (D : va_G) (E : Nat → ClassId) (G : Nat → Nat) (sz : Nat) (a : Nat → Nat) (C : Nat → va_E) (hT : TyX a E C) (x1 : Int32) (x2 : Int32) : Met l yX6_bridgeOf (oh_w yX6_bridgeOf cX6_bridgeOf 3 (some .int)) ({ frames := 2, cells := 0, slots := 0, locals := 44 }) (oh_Pm D E G [.ref (a 0), .int x1, .int x2] (oh_W 35 a C) sz) (va_Qi (fun r (u : Nat → va_E) => TyX a E u ∧ fr [(7, 8)] [] C u ∧ (∀ A : LA, absX 10 C A → okA A → r = spBrOf A x1 x2)) (oh_B D (va_A (oh_W 35 a C) sz) (fun u => oh_W 35 a u)) (va_A (oh_W 35 a C) sz)) 0 0 (va_A (oh_W 35 a C) sz) := by
  refine Met.ofW (cc := cX6_bridgeOf) (maxL := 3) (ret := (some .int)) (by decide) rfl ?_
  intro p e s m args below meth c s₁ B hml hv
  obtain ⟨rfl, hsz, hP, hK, hD0, hG⟩ := hv
  have hx := B.exec
  have hb := B.bytes
  have hr := B.returns
  have hts := atoms_spec (ws := (oh_w yX6_bridgeOf cX6_bridgeOf 3 (some .int))) B.pre
  have htg : ∀ w ∈ oh_t, w.before _ s = true := fun w h => hts w (List.mem_cons_of_mem _ h)
  have hown : s.vm.findClass RX6 = some m.cls := findClass_of_methodNamed B.named
  have hlocks := B.notSynchronized
  have hT0 := hT
  subst hsz
  have hD := hD0.self (sz := s.heap.size)
  generalize hAe : va_A (oh_W 35 a C) s.heap.size = A at hD hG ⊢
  have hA : ∀ q : Nat, s.heap.size ≤ q → A q := fun q h => by rw [← hAe]; exact Or.inr h
  have hS : va_S A s.heap s.heap [] := va_S.rf
  have hF : fr [(7, 8)] [] C C := fr_rf
  have hl := lv_entry ([.ref (a 0), .int x1, .int x2]) (n := 3) (Nat.le_of_ble_eq_true rfl)
  rw [lg_entry_eq]
  generalize (lg_sl ([.ref (a 0), .int x1, .int x2]) ++ List.replicate (3 - (lg_sl ([.ref (a 0), .int x1, .int x2])).length) Slot.unset).toArray = ls at hl ⊢
  have hl : lv_has ls 3 [(0, .ref (a 0)), (1, .int x1), (2, .int x2)] := hl
  refine oh_genQ (fun Q hQ => ?_)
  refine lv_aload_n hx hb dX6_bridgeOf_0 rfl (lv_at hl 0 rfl) ?_
  refine lv_iload_n hx hb dX6_bridgeOf_1 rfl (lv_at hl 1 rfl) ?_
  refine tq_V (As := [.int x1]) (rest := []) (ws := (oh_W 35 a C)) ⟨hx, hb, hml, hown, htg⟩ (e_X6_isBridge l D E G a C hT x1) (cwV 1 htg (oh_gV q_366 q_368 q_2 q_66 q_369) rfl rfl rfl pdVX6_isBridge ⟨Nat.le_of_ble_eq_true rfl, Nat.le_of_ble_eq_true rfl⟩) hK hP hG hS (va_recv hK hP (ci := 6) (q0 := 0) rfl (oh_wg (by decide) (sX_0 hT))) rfl hl.1 rfl (Nat.le_of_ble_eq_true rfl) dX6_bridgeOf_2 ⟨Nat.le_of_ble_eq_true rfl, Nat.le_of_ble_eq_true rfl⟩ (fun r_1 hq_2 => ?_)
  refine lv_if_eq (tgt := 18) hx hb dX6_bridgeOf_5 (by decide) (fun (c_3 : r_1 = 0) => ?_) (fun (c_3 : ¬ (r_1 = 0)) => ?_)
  · have u_4 := hq_2.2.2 c_3
    refine lv_aload_n hx hb dX6_bridgeOf_18 rfl (lv_at hl 0 rfl) ?_
    refine lv_bipush (v := (-2)) hx hb dX6_bridgeOf_19 (by decide) ?_
    refine tm_V (As := [.int (-2)]) (rest := []) ⟨hx, hb, hml, hown, htg⟩ (c_X6_refuse l D E G _ a C hT ((-2) : Int32)) (cwV 1 htg (oh_gV q_296 q_298 q_0 q_66 q_299) rfl rfl rfl pdVX6_refuse ⟨Nat.le_of_ble_eq_true rfl, Nat.le_of_ble_eq_true rfl⟩) hK hP hD hG hS hA (va_recv hK hP (ci := 6) (q0 := 0) rfl (oh_wg (by decide) (sX_0 hT))) rfl hl.1 rfl (Nat.le_of_ble_eq_true rfl) dX6_bridgeOf_21 ⟨Nat.le_of_ble_eq_true rfl, Nat.le_of_ble_eq_true rfl⟩ (fun r_5 C_6 H locs hq_7 hP hD hS => ?_)
    obtain ⟨hT, f_8, hq_7⟩ := hq_7
    have hF := fr_tr hF f_8 (by decide) (by decide)
    refine W.widen (k := 0) (n := 0) (Nat.le_refl _) (Nat.le_refl _) ?_
    have t_9 := hT
    rw [hQ]
    exact W.iret (v := r_5) hx hb hr (fun t ht hW => ⟨⟨r_5, C_6, rfl, ⟨hT, hF, (fun A hA hok => Eq.trans hq_7 (pif_neg (fun h8 => by have h7 := h8.1; rw [← (show ga (C 10) ((1 : Int32)).toNatClampNeg = A 5 0 1 from hA.1 1 (by decide))] at h7; exact u_4 h7)).symm)⟩, ⟨by rw [ht]; exact hP, hD⟩⟩, hS.F ht⟩) hS.2.2 dX6_bridgeOf_24
  · have u_10 := hq_2.2.1 c_3
    refine lv_iload_n hx hb dX6_bridgeOf_8 rfl (lv_at hl 2 rfl) ?_
    refine lv_iconst (v := 0) hx hb dX6_bridgeOf_9 (by decide) ?_
    refine lv_bipush (v := 9) hx hb dX6_bridgeOf_10 (by decide) ?_
    refine tq_S (As := [.int x2, .int 0, .int 9]) (rest := []) (ws := []) ⟨hx, hb, hml, hown, htg⟩ (c_X6_within l D E G x2 (0 : Int32) (9 : Int32)) (va_cwS 3 htg (oh_gS q_293 q_294 q_66 q_295) rfl rfl rfl pdX6_within ⟨Nat.le_of_ble_eq_true rfl, Nat.le_of_ble_eq_true rfl⟩) hK va_nil hG hS rfl hl.1 rfl (Nat.le_of_ble_eq_true rfl) dX6_bridgeOf_12 ⟨Nat.le_of_ble_eq_true rfl, Nat.le_of_ble_eq_true rfl⟩ (fun r_11 hq_12 => ?_)
    refine lv_if_ne (tgt := 25) hx hb dX6_bridgeOf_15 (by decide) (fun (c_13 : ¬ (r_11 = 0)) => ?_) (fun (c_13 : r_11 = 0) => ?_)
    · have u_14 := hq_12.2.1 c_13
      refine lv_aload_n hx hb dX6_bridgeOf_25 rfl (lv_at hl 0 rfl) ?_
      refine va_get (D := D) (ci := 6) (v := .ref (a 1)) (C := RX6) (T := TX6) (N := 9) hx hb htg ig_6 hown hK hP 0 (oh_wg (by decide) (sX_0 hT)) rfl 0 (by decide) (htg _ q_258) (fun _ h9 => h9) rfl dX6_bridgeOf_26 ?_
      refine lv_iload_n hx hb dX6_bridgeOf_29 rfl (lv_at hl 1 rfl) ?_
      refine lv_iload_n hx hb dX6_bridgeOf_30 rfl (lv_at hl 2 rfl) ?_
      refine tq_V (As := [.int x1, .int x2]) (rest := []) (ws := (oh_W 35 a C)) ⟨hx, hb, hml, hown, htg⟩ (c_X0_ofBridge l D E G a C hT x1 x2 (rg_w u_10.1 (by decide)) (rg_w (rn_leu u_14.2 (rn_lel u_14.1 (rg_c (v := 0) (lo := 0) (hi := 0) (by decide)) (rg_any _)) (rg_c (v := 9) (lo := 9) (hi := 9) (by decide))) (by decide))) (cwV 2 htg (oh_gV q_392 q_385 q_386 q_67 q_387) rfl rfl rfl pdVX0_ofBridge ⟨Nat.le_of_ble_eq_true rfl, Nat.le_of_ble_eq_true rfl⟩) hK hP hG hS (va_recv hK hP (ci := 0) (q0 := 1) rfl (oh_wg (by decide) (sX_1 hT))) rfl hl.1 rfl (Nat.le_of_ble_eq_true rfl) dX6_bridgeOf_31 ⟨Nat.le_of_ble_eq_true rfl, Nat.le_of_ble_eq_true rfl⟩ (fun r_15 hq_16 => ?_)
      subst hq_16
      rw [hQ]
      exact W.iret (v := ga (C 12) ((x1 * 10) + x2).toNatClampNeg) hx hb hr (fun t ht hW => ⟨⟨ga (C 12) ((x1 * 10) + x2).toNatClampNeg, C, rfl, ⟨hT, hF, (fun A hA hok => Eq.trans (bcX hA (rg_w (lo := 0) (hi := 15) u_10.1 (by decide)) (show 0 ≤ x1 ∧ x1 < A 5 0 1 by rw [← (show ga (C 10) ((1 : Int32)).toNatClampNeg = A 5 0 1 from hA.1 1 (by decide))]; exact u_10.2).2 (rg_w (lo := 0) (hi := 9) (rn_leu u_14.2 (rn_lel u_14.1 (rg_c (v := 0) (lo := 0) (hi := 0) (by decide)) (rg_any _)) (rg_c (v := 9) (lo := 9) (hi := 9) (by decide))) (by decide))) (pif_pos ⟨(show 0 ≤ x1 ∧ x1 < A 5 0 1 by rw [← (show ga (C 10) ((1 : Int32)).toNatClampNeg = A 5 0 1 from hA.1 1 (by decide))]; exact u_10.2), (oh_rgI (p := 0) (q := 9) (rg_w (lo := 0) (hi := 9) (rn_leu u_14.2 (rn_lel u_14.1 (rg_c (v := 0) (lo := 0) (hi := 0) (by decide)) (rg_any _)) (rg_c (v := 9) (lo := 9) (hi := 9) (by decide))) (by decide)))⟩).symm)⟩, ⟨by rw [ht]; exact hP, hD⟩⟩, hS.F ht⟩) hS.2.2 dX6_bridgeOf_34
    · have u_17 := hq_12.2.2 c_13
      refine lv_aload_n hx hb dX6_bridgeOf_18 rfl (lv_at hl 0 rfl) ?_
      refine lv_bipush (v := (-2)) hx hb dX6_bridgeOf_19 (by decide) ?_
      refine tm_V (As := [.int (-2)]) (rest := []) ⟨hx, hb, hml, hown, htg⟩ (c_X6_refuse l D E G _ a C hT ((-2) : Int32)) (cwV 1 htg (oh_gV q_296 q_298 q_0 q_66 q_299) rfl rfl rfl pdVX6_refuse ⟨Nat.le_of_ble_eq_true rfl, Nat.le_of_ble_eq_true rfl⟩) hK hP hD hG hS hA (va_recv hK hP (ci := 6) (q0 := 0) rfl (oh_wg (by decide) (sX_0 hT))) rfl hl.1 rfl (Nat.le_of_ble_eq_true rfl) dX6_bridgeOf_21 ⟨Nat.le_of_ble_eq_true rfl, Nat.le_of_ble_eq_true rfl⟩ (fun r_18 C_19 H locs hq_20 hP hD hS => ?_)
      obtain ⟨hT, f_21, hq_20⟩ := hq_20
      have hF := fr_tr hF f_21 (by decide) (by decide)
      refine W.widen (k := 0) (n := 0) (Nat.le_refl _) (Nat.le_refl _) ?_
      have t_22 := hT
      rw [hQ]
      exact W.iret (v := r_18) hx hb hr (fun t ht hW => ⟨⟨r_18, C_19, rfl, ⟨hT, hF, (fun A hA hok => Eq.trans hq_20 (pif_neg (fun h8 => u_17 h8.2)).symm)⟩, ⟨by rw [ht]; exact hP, hD⟩⟩, hS.F ht⟩) hS.2.2 dX6_bridgeOf_24

set_option maxHeartbeats 4000000 in
set_option maxRecDepth 100000 in
theorem e_X7_bridgeOf (l : Launch) (D : va_G) (E : Nat → ClassId) (G : Nat → Nat) (sz : Nat) (a : Nat → Nat) (C : Nat → va_E) (n : Nat) (hn : 74 ≤ n) (hT : TyM a E C) (x1 : Int32) (x2 : Int32) (hR : RelM C) : Met l yX7_bridgeOf (oh_w yX7_bridgeOf cX7_bridgeOf 3 (some .int)) ({ frames := 2, cells := 0, slots := 0, locals := 46 }) (oh_Pm D E G [.ref (a 0), .int x1, .int x2] (oh_W n a C) sz) (va_Qi (fun r (u : Nat → va_E) => TyM a E u ∧ fr [(8, 9)] [] C u ∧ (RelM u) ∧ (∀ A : LA, absM C A → okA A → r = spBrOf A x1 x2)) (oh_B D (va_A (oh_W n a C) sz) (fun u => oh_W n a u)) (va_A (oh_W n a C) sz)) 0 0 (va_A (oh_W n a C) sz) := by
  refine Met.ofW (cc := cX7_bridgeOf) (maxL := 3) (ret := (some .int)) (by decide) rfl ?_
  intro p e s m args below meth c s₁ B hml hv
  obtain ⟨rfl, hsz, hP, hK, hD0, hG⟩ := hv
  have hx := B.exec
  have hb := B.bytes
  have hr := B.returns
  have hts := atoms_spec (ws := (oh_w yX7_bridgeOf cX7_bridgeOf 3 (some .int))) B.pre
  have htg : ∀ w ∈ oh_t, w.before _ s = true := fun w h => hts w (List.mem_cons_of_mem _ h)
  have hown : s.vm.findClass RX7 = some m.cls := findClass_of_methodNamed B.named
  have hlocks := B.notSynchronized
  have hT0 := hT
  subst hsz
  have hD := hD0.self (sz := s.heap.size)
  generalize hAe : va_A (oh_W n a C) s.heap.size = A at hD hG ⊢
  have hA : ∀ q : Nat, s.heap.size ≤ q → A q := fun q h => by rw [← hAe]; exact Or.inr h
  have hS : va_S A s.heap s.heap [] := va_S.rf
  have hF : fr [(8, 9)] [] C C := fr_rf
  have hl := lv_entry ([.ref (a 0), .int x1, .int x2]) (n := 3) (Nat.le_of_ble_eq_true rfl)
  rw [lg_entry_eq]
  generalize (lg_sl ([.ref (a 0), .int x1, .int x2]) ++ List.replicate (3 - (lg_sl ([.ref (a 0), .int x1, .int x2])).length) Slot.unset).toArray = ls at hl ⊢
  have hl : lv_has ls 3 [(0, .ref (a 0)), (1, .int x1), (2, .int x2)] := hl
  refine oh_genQ (fun Q hQ => ?_)
  refine lv_aload_n hx hb dX7_bridgeOf_0 rfl (lv_at hl 0 rfl) ?_
  refine lv_iload_n hx hb dX7_bridgeOf_1 rfl (lv_at hl 1 rfl) ?_
  refine tq_V (As := [.int x1]) (rest := []) (ws := (oh_W n a C)) ⟨hx, hb, hml, hown, htg⟩ (e_X7_isBridge l D E G a C n hn hT x1) (cwV 1 htg (oh_gV q_1098 q_1100 q_30 q_73 q_1101) rfl rfl rfl pdVX7_isBridge ⟨Nat.le_of_ble_eq_true rfl, Nat.le_of_ble_eq_true rfl⟩) hK hP hG hS (va_recv hK hP (ci := 7) (q0 := 0) rfl (oh_wg (Nat.lt_of_lt_of_le (by decide) hn) (sM_0 hT))) rfl hl.1 rfl (Nat.le_of_ble_eq_true rfl) dX7_bridgeOf_2 ⟨Nat.le_of_ble_eq_true rfl, Nat.le_of_ble_eq_true rfl⟩ (fun r_1 hq_2 => ?_)
  refine lv_if_eq (tgt := 31) hx hb dX7_bridgeOf_5 (by decide) (fun (c_3 : r_1 = 0) => ?_) (fun (c_3 : ¬ (r_1 = 0)) => ?_)
  · have u_4 := hq_2.2.2 c_3
    refine lv_aload_n hx hb dX7_bridgeOf_31 rfl (lv_at hl 0 rfl) ?_
    refine lv_bipush (v := (-2)) hx hb dX7_bridgeOf_32 (by decide) ?_
    refine tm_V (As := [.int (-2)]) (rest := []) ⟨hx, hb, hml, hown, htg⟩ (c_X7_refuse l D E G _ a C n hn hT ((-2) : Int32) (rg_w (rg_c (v := (-2)) (lo := (-2)) (hi := (-2)) (by decide)) (by decide))) (cwV 1 htg (oh_gV q_1071 q_1073 q_29 q_73 q_1074) rfl rfl rfl pdVX7_refuse ⟨Nat.le_of_ble_eq_true rfl, Nat.le_of_ble_eq_true rfl⟩) hK hP hD hG hS hA (va_recv hK hP (ci := 7) (q0 := 0) rfl (oh_wg (Nat.lt_of_lt_of_le (by decide) hn) (sM_0 hT))) rfl hl.1 rfl (Nat.le_of_ble_eq_true rfl) dX7_bridgeOf_34 ⟨Nat.le_of_ble_eq_true rfl, Nat.le_of_ble_eq_true rfl⟩ (fun r_5 C_6 H locs hq_7 hP hD hS => ?_)
    obtain ⟨hT, f_8, hq_7⟩ := hq_7
    have hF := fr_tr hF f_8 (by decide) (by decide)
    refine W.widen (k := 0) (n := 0) (Nat.le_refl _) (Nat.le_refl _) ?_
    have t_9 := hT
    rw [hQ]
    exact W.iret (v := r_5) hx hb hr (fun t ht hW => ⟨⟨r_5, C_6, rfl, ⟨hT, hF, ⟨⟨hR.1.fr hF (by decide), hR.2.fr hF (by decide)⟩, (fun A hA hok => Eq.trans hq_7 (pif_neg (fun h8 => by have h7 := h8.1; rw [← (show gi (C 0) 11 = A 5 0 1 from hA.1 1 (by decide))] at h7; exact u_4 h7)).symm)⟩⟩, ⟨by rw [ht]; exact hP, hD⟩⟩, hS.F ht⟩) hS.2.2 dX7_bridgeOf_37
  · have u_10 := hq_2.2.1 c_3
    refine lv_iload_n hx hb dX7_bridgeOf_8 rfl (lv_at hl 2 rfl) ?_
    refine lv_i2l (v := Int32.toInt64 x2) hx hb dX7_bridgeOf_9 (by rfl) ?_
    refine lv_lconst (v := 0) hx hb dX7_bridgeOf_10 (by decide) ?_
    refine lv_ldc2 (v := 9) hx hb hown (htg _ q_1135) dX7_bridgeOf_11 ?_
    refine tq_S (As := [.long (Int32.toInt64 x2), .long 0, .long 9]) (rest := []) (ws := []) ⟨hx, hb, hml, hown, htg⟩ (c_X7_in l D E G (Int32.toInt64 x2) (0 : Int64) (9 : Int64)) (va_cwS 3 htg (oh_gS q_1066 q_1067 q_73 q_1068) rfl rfl rfl pdX7_in ⟨Nat.le_of_ble_eq_true rfl, Nat.le_of_ble_eq_true rfl⟩) hK va_nil hG hS rfl hl.1 rfl (Nat.le_of_ble_eq_true rfl) dX7_bridgeOf_14 ⟨Nat.le_of_ble_eq_true rfl, Nat.le_of_ble_eq_true rfl⟩ (fun r_11 hq_12 => ?_)
    refine lv_if_eq (tgt := 31) hx hb dX7_bridgeOf_17 (by decide) (fun (c_13 : r_11 = 0) => ?_) (fun (c_13 : ¬ (r_11 = 0)) => ?_)
    · have u_14 := hq_12.2.2 c_13
      refine lv_aload_n hx hb dX7_bridgeOf_31 rfl (lv_at hl 0 rfl) ?_
      refine lv_bipush (v := (-2)) hx hb dX7_bridgeOf_32 (by decide) ?_
      refine tm_V (As := [.int (-2)]) (rest := []) ⟨hx, hb, hml, hown, htg⟩ (c_X7_refuse l D E G _ a C n hn hT ((-2) : Int32) (rg_w (rg_c (v := (-2)) (lo := (-2)) (hi := (-2)) (by decide)) (by decide))) (cwV 1 htg (oh_gV q_1071 q_1073 q_29 q_73 q_1074) rfl rfl rfl pdVX7_refuse ⟨Nat.le_of_ble_eq_true rfl, Nat.le_of_ble_eq_true rfl⟩) hK hP hD hG hS hA (va_recv hK hP (ci := 7) (q0 := 0) rfl (oh_wg (Nat.lt_of_lt_of_le (by decide) hn) (sM_0 hT))) rfl hl.1 rfl (Nat.le_of_ble_eq_true rfl) dX7_bridgeOf_34 ⟨Nat.le_of_ble_eq_true rfl, Nat.le_of_ble_eq_true rfl⟩ (fun r_15 C_16 H locs hq_17 hP hD hS => ?_)
      obtain ⟨hT, f_18, hq_17⟩ := hq_17
      have hF := fr_tr hF f_18 (by decide) (by decide)
      refine W.widen (k := 0) (n := 0) (Nat.le_refl _) (Nat.le_refl _) ?_
      have t_19 := hT
      rw [hQ]
      exact W.iret (v := r_15) hx hb hr (fun t ht hW => ⟨⟨r_15, C_16, rfl, ⟨hT, hF, ⟨⟨hR.1.fr hF (by decide), hR.2.fr hF (by decide)⟩, (fun A hA hok => Eq.trans hq_17 (pif_neg (fun h8 => (oh_in64 (l' := 0) (k' := 9) rfl rfl u_14) h8.2)).symm)⟩⟩, ⟨by rw [ht]; exact hP, hD⟩⟩, hS.F ht⟩) hS.2.2 dX7_bridgeOf_37
    · have u_20 := hq_12.2.1 c_13
      refine lv_aload_n hx hb dX7_bridgeOf_20 rfl (lv_at hl 0 rfl) ?_
      refine va_get (D := D) (ci := 7) (v := .ref (a 10)) (C := RX7) (T := TX7) (N := 29) hx hb htg ig_7 hown hK hP 0 (oh_wg (Nat.lt_of_lt_of_le (by decide) hn) (sM_0 hT)) rfl 12 (by decide) (htg _ q_985) (fun _ h9 => h9) rfl dX7_bridgeOf_21 ?_
      refine lv_iload_n hx hb dX7_bridgeOf_24 rfl (lv_at hl 1 rfl) ?_
      have n_21 : vp_in x1 16 := (rg_in u_10.1 (by decide))
      have b_22 : (x1).toNatClampNeg < 16 := vp_lt n_21
      refine th_aald hx hb hK hP 10 2 (Nat.lt_of_lt_of_le (by decide) hn) (sM_10 hT) rfl n_21 dX7_bridgeOf_25 ?_
      refine lv_iload_n hx hb dX7_bridgeOf_26 rfl (lv_at hl 2 rfl) ?_
      have n_23 : vp_in x2 10 := (rg_in (rg_il (rgL_i (rg_il (rnL_leu u_20.2 (rnL_lel u_20.1 (rgL_c (v := 0) (lo := 0) (hi := 0) (by decide)) (rgL_i (rg_any _))) (rgL_c (v := 9) (lo := 9) (hi := 9) (by decide)))))) (by decide))
      refine th_iald hx hb hK hP (48 + (x1).toNatClampNeg) (lt_blk b_22 hn (by decide)) (hT.bbridge b_22).1 n_23 dX7_bridgeOf_27 ?_
      refine lv_goto (tgt := 37) hx hb dX7_bridgeOf_28 (by decide) ?_
      rw [hQ]
      exact W.iret (v := ga (C (48 + (x1).toNatClampNeg)) (x2).toNatClampNeg) hx hb hr (fun t ht hW => ⟨⟨ga (C (48 + (x1).toNatClampNeg)) (x2).toNatClampNeg, C, rfl, ⟨hT, hF, ⟨hR, (fun A hA hok => Eq.trans (colM_v (t := 1) hA (by decide) (rg_w (lo := 0) (hi := 15) u_10.1 (by decide)) (show x2.toNatClampNeg < 10 from vp_lt (rg_in (rg_w (lo := 0) (hi := 9) (rg_il (rgL_i (rg_il (rnL_leu u_20.2 (rnL_lel u_20.1 (rgL_c (v := 0) (lo := 0) (hi := 0) (by decide)) (rgL_i (rg_any _))) (rgL_c (v := 9) (lo := 9) (hi := 9) (by decide)))))) (by decide)) (by decide))) (show 0 ≤ x1 ∧ x1 < A 5 0 1 by rw [← (show gi (C 0) 11 = A 5 0 1 from hA.1 1 (by decide))]; exact u_10.2).2 (by unfold vis; omega)) (pif_pos ⟨(show 0 ≤ x1 ∧ x1 < A 5 0 1 by rw [← (show gi (C 0) 11 = A 5 0 1 from hA.1 1 (by decide))]; exact u_10.2), (oh_rgI (p := 0) (q := 9) (rg_w (lo := 0) (hi := 9) (rg_il (rgL_i (rg_il (rnL_leu u_20.2 (rnL_lel u_20.1 (rgL_c (v := 0) (lo := 0) (hi := 0) (by decide)) (rgL_i (rg_any _))) (rgL_c (v := 9) (lo := 9) (hi := 9) (by decide)))))) (by decide)))⟩).symm)⟩⟩, ⟨by rw [ht]; exact hP, hD⟩⟩, hS.F ht⟩) hS.2.2 dX7_bridgeOf_37

set_option maxHeartbeats 4000000 in
set_option maxRecDepth 100000 in
theorem e_X6_bears (l : Launch) (D : va_G) (E : Nat → ClassId) (G : Nat → Nat) (sz : Nat) (a : Nat → Nat) (C : Nat → va_E) (hT : TyX a E C) (x1 : Int32) (x2 : Int32) (hx2 : rg x2 0 1) : Met l yX6_bears (oh_w yX6_bears cX6_bears 3 (some .int)) ({ frames := 2, cells := 0, slots := 0, locals := 51 }) (oh_Pm D E G [.ref (a 0), .int x1, .int x2] (oh_W 35 a C) sz) (va_Qi (fun r (u : Nat → va_E) => TyX a E u ∧ fr [(7, 8)] [] C u ∧ (∀ A : LA, absX 10 C A → okA A → r = spBears A x1 x2)) (oh_B D (va_A (oh_W 35 a C) sz) (fun u => oh_W 35 a u)) (va_A (oh_W 35 a C) sz)) 0 0 (va_A (oh_W 35 a C) sz) := by
  refine Met.ofW (cc := cX6_bears) (maxL := 3) (ret := (some .int)) (by decide) rfl ?_
  intro p e s m args below meth c s₁ B hml hv
  obtain ⟨rfl, hsz, hP, hK, hD0, hG⟩ := hv
  have hx := B.exec
  have hb := B.bytes
  have hr := B.returns
  have hts := atoms_spec (ws := (oh_w yX6_bears cX6_bears 3 (some .int))) B.pre
  have htg : ∀ w ∈ oh_t, w.before _ s = true := fun w h => hts w (List.mem_cons_of_mem _ h)
  have hown : s.vm.findClass RX6 = some m.cls := findClass_of_methodNamed B.named
  have hlocks := B.notSynchronized
  have hT0 := hT
  subst hsz
  have hD := hD0.self (sz := s.heap.size)
  generalize hAe : va_A (oh_W 35 a C) s.heap.size = A at hD hG ⊢
  have hA : ∀ q : Nat, s.heap.size ≤ q → A q := fun q h => by rw [← hAe]; exact Or.inr h
  have hS : va_S A s.heap s.heap [] := va_S.rf
  have hF : fr [(7, 8)] [] C C := fr_rf
  have hl := lv_entry ([.ref (a 0), .int x1, .int x2]) (n := 3) (Nat.le_of_ble_eq_true rfl)
  rw [lg_entry_eq]
  generalize (lg_sl ([.ref (a 0), .int x1, .int x2]) ++ List.replicate (3 - (lg_sl ([.ref (a 0), .int x1, .int x2])).length) Slot.unset).toArray = ls at hl ⊢
  have hl : lv_has ls 3 [(0, .ref (a 0)), (1, .int x1), (2, .int x2)] := hl
  refine oh_genQ (fun Q hQ => ?_)
  refine lv_aload_n hx hb dX6_bears_0 rfl (lv_at hl 0 rfl) ?_
  refine lv_iload_n hx hb dX6_bears_1 rfl (lv_at hl 1 rfl) ?_
  refine tq_V (As := [.int x1]) (rest := []) (ws := (oh_W 35 a C)) ⟨hx, hb, hml, hown, htg⟩ (e_X6_isBridge l D E G a C hT x1) (cwV 1 htg (oh_gV q_366 q_368 q_2 q_66 q_369) rfl rfl rfl pdVX6_isBridge ⟨Nat.le_of_ble_eq_true rfl, Nat.le_of_ble_eq_true rfl⟩) hK hP hG hS (va_recv hK hP (ci := 6) (q0 := 0) rfl (oh_wg (by decide) (sX_0 hT))) rfl hl.1 rfl (Nat.le_of_ble_eq_true rfl) dX6_bears_2 ⟨Nat.le_of_ble_eq_true rfl, Nat.le_of_ble_eq_true rfl⟩ (fun r_1 hq_2 => ?_)
  refine lv_if_ne (tgt := 15) hx hb dX6_bears_5 (by decide) (fun (c_3 : ¬ (r_1 = 0)) => ?_) (fun (c_3 : r_1 = 0) => ?_)
  · have u_4 := hq_2.2.1 c_3
    refine lv_iload_n hx hb dX6_bears_15 rfl (lv_at hl 2 rfl) ?_
    refine lv_if_eq (tgt := 38) hx hb dX6_bears_16 (by decide) (fun (c_5 : x2 = 0) => ?_) (fun (c_5 : ¬ (x2 = 0)) => ?_)
    · refine lv_aload_n hx hb dX6_bears_38 rfl (lv_at hl 0 rfl) ?_
      refine va_get (D := D) (ci := 6) (v := .ref (a 1)) (C := RX6) (T := TX6) (N := 9) hx hb htg ig_6 hown hK hP 0 (oh_wg (by decide) (sX_0 hT)) rfl 0 (by decide) (htg _ q_258) (fun _ h9 => h9) rfl dX6_bears_39 ?_
      refine lv_iload_n hx hb dX6_bears_42 rfl (lv_at hl 1 rfl) ?_
      refine tq_V (As := [.int x1]) (rest := []) (ws := (oh_W 35 a C)) ⟨hx, hb, hml, hown, htg⟩ (e_X0_bearsAxle l D E G a C hT x1 (rg_w u_4.1 (by decide))) (cwV 1 htg (oh_gV q_393 q_394 q_395 q_67 q_396) rfl rfl rfl pdVX0_bearsAxle ⟨Nat.le_of_ble_eq_true rfl, Nat.le_of_ble_eq_true rfl⟩) hK hP hG hS (va_recv hK hP (ci := 0) (q0 := 1) rfl (oh_wg (by decide) (sX_1 hT))) rfl hl.1 rfl (Nat.le_of_ble_eq_true rfl) dX6_bears_43 ⟨Nat.le_of_ble_eq_true rfl, Nat.le_of_ble_eq_true rfl⟩ (fun r_6 hq_7 => ?_)
      rw [hQ]
      exact W.iret (v := r_6) hx hb hr (fun t ht hW => ⟨⟨r_6, C, rfl, ⟨hT, hF, (fun A hA hok => by have hb := (show 0 ≤ x1 ∧ x1 < A 5 0 1 by rw [← (show ga (C 10) ((1 : Int32)).toNatClampNeg = A 5 0 1 from hA.1 1 (by decide))]; exact u_4.2); have b1 : ga (C 12) ((x1 * 10) + 1).toNatClampNeg = A 1 x1.toNatClampNeg 1 := bcX hA (rg_w (lo := 0) (hi := 15) u_4.1 (by decide)) hb.2 ⟨by decide, by decide⟩; have b3 : ga (C 12) ((x1 * 10) + 3).toNatClampNeg = A 1 x1.toNatClampNeg 3 := bcX hA (rg_w (lo := 0) (hi := 15) u_4.1 (by decide)) hb.2 ⟨by decide, by decide⟩; have b4 : ga (C 12) ((x1 * 10) + 4).toNatClampNeg = A 1 x1.toNatClampNeg 4 := bcX hA (rg_w (lo := 0) (hi := 15) u_4.1 (by decide)) hb.2 ⟨by decide, by decide⟩; have b5 : ga (C 12) ((x1 * 10) + 5).toNatClampNeg = A 1 x1.toNatClampNeg 5 := bcX hA (rg_w (lo := 0) (hi := 15) u_4.1 (by decide)) hb.2 ⟨by decide, by decide⟩; have b7 : ga (C 12) ((x1 * 10) + 7).toNatClampNeg = A 1 x1.toNatClampNeg 7 := bcX hA (rg_w (lo := 0) (hi := 15) u_4.1 (by decide)) hb.2 ⟨by decide, by decide⟩; have b8 : ga (C 12) ((x1 * 10) + 8).toNatClampNeg = A 1 x1.toNatClampNeg 8 := bcX hA (rg_w (lo := 0) (hi := 15) u_4.1 (by decide)) hb.2 ⟨by decide, by decide⟩; have b9 : ga (C 12) ((x1 * 10) + 9).toNatClampNeg = A 1 x1.toNatClampNeg 9 := bcX hA (rg_w (lo := 0) (hi := 15) u_4.1 (by decide)) hb.2 ⟨by decide, by decide⟩; have bf : ga (C 15) ((2 : Int32)).toNatClampNeg = A 4 0 2 := hA.2.1 2 (by decide); exact Eq.trans (by rw [hq_7, b1, b3, b8, b9, bf]; rfl) (Eq.trans (pif_pos hb) (pif_pos c_5)).symm)⟩, ⟨by rw [ht]; exact hP, hD⟩⟩, hS.F ht⟩) hS.2.2 dX6_bears_46
    · refine lv_aload_n hx hb dX6_bears_19 rfl (lv_at hl 0 rfl) ?_
      refine va_get (D := D) (ci := 6) (v := .ref (a 1)) (C := RX6) (T := TX6) (N := 9) hx hb htg ig_6 hown hK hP 0 (oh_wg (by decide) (sX_0 hT)) rfl 0 (by decide) (htg _ q_258) (fun _ h9 => h9) rfl dX6_bears_20 ?_
      refine lv_iload_n hx hb dX6_bears_23 rfl (lv_at hl 1 rfl) ?_
      refine lv_aload_n hx hb dX6_bears_24 rfl (lv_at hl 0 rfl) ?_
      refine va_get (D := D) (ci := 6) (v := .ref (a 1)) (C := RX6) (T := TX6) (N := 9) hx hb htg ig_6 hown hK hP 0 (oh_wg (by decide) (sX_0 hT)) rfl 0 (by decide) (htg _ q_258) (fun _ h9 => h9) rfl dX6_bears_25 ?_
      refine lv_iload_n hx hb dX6_bears_28 rfl (lv_at hl 1 rfl) ?_
      refine tq_V (As := [.int x1]) (rest := [.int x1, .ref (a 1)]) (ws := (oh_W 35 a C)) ⟨hx, hb, hml, hown, htg⟩ (e_X0_isPropped l D E G a C hT x1 (rg_w u_4.1 (by decide))) (cwV 1 htg (oh_gV q_401 q_402 q_403 q_67 q_404) rfl rfl rfl pdVX0_isPropped ⟨Nat.le_of_ble_eq_true rfl, Nat.le_of_ble_eq_true rfl⟩) hK hP hG hS (va_recv hK hP (ci := 0) (q0 := 1) rfl (oh_wg (by decide) (sX_1 hT))) rfl hl.1 rfl (Nat.le_of_ble_eq_true rfl) dX6_bears_29 ⟨Nat.le_of_ble_eq_true rfl, Nat.le_of_ble_eq_true rfl⟩ (fun r_8 hq_9 => ?_)
      refine tq_V (As := [.int x1, .int r_8]) (rest := []) (ws := (oh_W 35 a C)) ⟨hx, hb, hml, hown, htg⟩ (e_X0_bearsAll l D E G a C hT x1 r_8 (rg_w u_4.1 (by decide)) (rg_w (oh_rgb hq_9.1) (by decide))) (cwV 2 htg (oh_gV q_405 q_406 q_407 q_67 q_408) rfl rfl rfl pdVX0_bearsAll ⟨Nat.le_of_ble_eq_true rfl, Nat.le_of_ble_eq_true rfl⟩) hK hP hG hS (va_recv hK hP (ci := 0) (q0 := 1) rfl (oh_wg (by decide) (sX_1 hT))) rfl hl.1 rfl (Nat.le_of_ble_eq_true rfl) dX6_bears_32 ⟨Nat.le_of_ble_eq_true rfl, Nat.le_of_ble_eq_true rfl⟩ (fun r_10 hq_11 => ?_)
      refine lv_goto (tgt := 46) hx hb dX6_bears_35 (by decide) ?_
      rw [hQ]
      exact W.iret (v := r_10) hx hb hr (fun t ht hW => ⟨⟨r_10, C, rfl, ⟨hT, hF, (fun A hA hok => by have hb := (show 0 ≤ x1 ∧ x1 < A 5 0 1 by rw [← (show ga (C 10) ((1 : Int32)).toNatClampNeg = A 5 0 1 from hA.1 1 (by decide))]; exact u_4.2); have b1 : ga (C 12) ((x1 * 10) + 1).toNatClampNeg = A 1 x1.toNatClampNeg 1 := bcX hA (rg_w (lo := 0) (hi := 15) u_4.1 (by decide)) hb.2 ⟨by decide, by decide⟩; have b3 : ga (C 12) ((x1 * 10) + 3).toNatClampNeg = A 1 x1.toNatClampNeg 3 := bcX hA (rg_w (lo := 0) (hi := 15) u_4.1 (by decide)) hb.2 ⟨by decide, by decide⟩; have b4 : ga (C 12) ((x1 * 10) + 4).toNatClampNeg = A 1 x1.toNatClampNeg 4 := bcX hA (rg_w (lo := 0) (hi := 15) u_4.1 (by decide)) hb.2 ⟨by decide, by decide⟩; have b5 : ga (C 12) ((x1 * 10) + 5).toNatClampNeg = A 1 x1.toNatClampNeg 5 := bcX hA (rg_w (lo := 0) (hi := 15) u_4.1 (by decide)) hb.2 ⟨by decide, by decide⟩; have b7 : ga (C 12) ((x1 * 10) + 7).toNatClampNeg = A 1 x1.toNatClampNeg 7 := bcX hA (rg_w (lo := 0) (hi := 15) u_4.1 (by decide)) hb.2 ⟨by decide, by decide⟩; have b8 : ga (C 12) ((x1 * 10) + 8).toNatClampNeg = A 1 x1.toNatClampNeg 8 := bcX hA (rg_w (lo := 0) (hi := 15) u_4.1 (by decide)) hb.2 ⟨by decide, by decide⟩; have b9 : ga (C 12) ((x1 * 10) + 9).toNatClampNeg = A 1 x1.toNatClampNeg 9 := bcX hA (rg_w (lo := 0) (hi := 15) u_4.1 (by decide)) hb.2 ⟨by decide, by decide⟩; have bf : ga (C 15) ((2 : Int32)).toNatClampNeg = A 4 0 2 := hA.2.1 2 (by decide); exact Eq.trans (by rw [hq_11, bAlF_c hq_9.2, b1, b4, b5, b7, b8, b9, bf]; rfl) (Eq.trans (pif_pos hb) (pif_neg c_5)).symm)⟩, ⟨by rw [ht]; exact hP, hD⟩⟩, hS.F ht⟩) hS.2.2 dX6_bears_46
  · have u_12 := hq_2.2.2 c_3
    refine lv_aload_n hx hb dX6_bears_8 rfl (lv_at hl 0 rfl) ?_
    refine lv_bipush (v := (-2)) hx hb dX6_bears_9 (by decide) ?_
    refine tm_V (As := [.int (-2)]) (rest := []) ⟨hx, hb, hml, hown, htg⟩ (c_X6_refuse l D E G _ a C hT ((-2) : Int32)) (cwV 1 htg (oh_gV q_296 q_298 q_0 q_66 q_299) rfl rfl rfl pdVX6_refuse ⟨Nat.le_of_ble_eq_true rfl, Nat.le_of_ble_eq_true rfl⟩) hK hP hD hG hS hA (va_recv hK hP (ci := 6) (q0 := 0) rfl (oh_wg (by decide) (sX_0 hT))) rfl hl.1 rfl (Nat.le_of_ble_eq_true rfl) dX6_bears_11 ⟨Nat.le_of_ble_eq_true rfl, Nat.le_of_ble_eq_true rfl⟩ (fun r_13 C_14 H locs hq_15 hP hD hS => ?_)
    obtain ⟨hT, f_16, hq_15⟩ := hq_15
    have hF := fr_tr hF f_16 (by decide) (by decide)
    refine W.widen (k := 0) (n := 0) (Nat.le_refl _) (Nat.le_refl _) ?_
    have t_17 := hT
    rw [hQ]
    exact W.iret (v := r_13) hx hb hr (fun t ht hW => ⟨⟨r_13, C_14, rfl, ⟨hT, hF, (fun A hA hok => Eq.trans hq_15 (pif_neg (by rw [← (show ga (C 10) ((1 : Int32)).toNatClampNeg = A 5 0 1 from hA.1 1 (by decide))]; exact u_12)).symm)⟩, ⟨by rw [ht]; exact hP, hD⟩⟩, hS.F ht⟩) hS.2.2 dX6_bears_14

set_option maxHeartbeats 4000000 in
set_option maxRecDepth 100000 in
theorem e_X7_bears (l : Launch) (D : va_G) (E : Nat → ClassId) (G : Nat → Nat) (sz : Nat) (a : Nat → Nat) (C : Nat → va_E) (n : Nat) (hn : 74 ≤ n) (hT : TyM a E C) (x1 : Int32) (x2 : Int32) (hx2 : rg x2 0 1) (hR : RelM C) : Met l yX7_bears (oh_w yX7_bears cX7_bears 3 (some .int)) ({ frames := 2, cells := 0, slots := 0, locals := 46 }) (oh_Pm D E G [.ref (a 0), .int x1, .int x2] (oh_W n a C) sz) (va_Qi (fun r (u : Nat → va_E) => TyM a E u ∧ fr [(8, 9)] [] C u ∧ (RelM u) ∧ (∀ A : LA, absM C A → okA A → r = spBears A x1 x2)) (oh_B D (va_A (oh_W n a C) sz) (fun u => oh_W n a u)) (va_A (oh_W n a C) sz)) 0 0 (va_A (oh_W n a C) sz) := by
  refine Met.ofW (cc := cX7_bears) (maxL := 3) (ret := (some .int)) (by decide) rfl ?_
  intro p e s m args below meth c s₁ B hml hv
  obtain ⟨rfl, hsz, hP, hK, hD0, hG⟩ := hv
  have hx := B.exec
  have hb := B.bytes
  have hr := B.returns
  have hts := atoms_spec (ws := (oh_w yX7_bears cX7_bears 3 (some .int))) B.pre
  have htg : ∀ w ∈ oh_t, w.before _ s = true := fun w h => hts w (List.mem_cons_of_mem _ h)
  have hown : s.vm.findClass RX7 = some m.cls := findClass_of_methodNamed B.named
  have hlocks := B.notSynchronized
  have hT0 := hT
  subst hsz
  have hD := hD0.self (sz := s.heap.size)
  generalize hAe : va_A (oh_W n a C) s.heap.size = A at hD hG ⊢
  have hA : ∀ q : Nat, s.heap.size ≤ q → A q := fun q h => by rw [← hAe]; exact Or.inr h
  have hS : va_S A s.heap s.heap [] := va_S.rf
  have hF : fr [(8, 9)] [] C C := fr_rf
  have hl := lv_entry ([.ref (a 0), .int x1, .int x2]) (n := 3) (Nat.le_of_ble_eq_true rfl)
  rw [lg_entry_eq]
  generalize (lg_sl ([.ref (a 0), .int x1, .int x2]) ++ List.replicate (3 - (lg_sl ([.ref (a 0), .int x1, .int x2])).length) Slot.unset).toArray = ls at hl ⊢
  have hl : lv_has ls 3 [(0, .ref (a 0)), (1, .int x1), (2, .int x2)] := hl
  refine oh_genQ (fun Q hQ => ?_)
  refine lv_aload_n hx hb dX7_bears_0 rfl (lv_at hl 0 rfl) ?_
  refine lv_iload_n hx hb dX7_bears_1 rfl (lv_at hl 1 rfl) ?_
  refine tq_V (As := [.int x1]) (rest := []) (ws := (oh_W n a C)) ⟨hx, hb, hml, hown, htg⟩ (e_X7_isBridge l D E G a C n hn hT x1) (cwV 1 htg (oh_gV q_1098 q_1100 q_30 q_73 q_1101) rfl rfl rfl pdVX7_isBridge ⟨Nat.le_of_ble_eq_true rfl, Nat.le_of_ble_eq_true rfl⟩) hK hP hG hS (va_recv hK hP (ci := 7) (q0 := 0) rfl (oh_wg (Nat.lt_of_lt_of_le (by decide) hn) (sM_0 hT))) rfl hl.1 rfl (Nat.le_of_ble_eq_true rfl) dX7_bears_2 ⟨Nat.le_of_ble_eq_true rfl, Nat.le_of_ble_eq_true rfl⟩ (fun r_1 hq_2 => ?_)
  refine lv_if_ne (tgt := 15) hx hb dX7_bears_5 (by decide) (fun (c_3 : ¬ (r_1 = 0)) => ?_) (fun (c_3 : r_1 = 0) => ?_)
  · have u_4 := hq_2.2.1 c_3
    refine lv_iload_n hx hb dX7_bears_15 rfl (lv_at hl 2 rfl) ?_
    refine lv_if_eq (tgt := 45) hx hb dX7_bears_16 (by decide) (fun (c_5 : x2 = 0) => ?_) (fun (c_5 : ¬ (x2 = 0)) => ?_)
    · refine lv_aload_n hx hb dX7_bears_45 rfl (lv_at hl 0 rfl) ?_
      refine lv_iload_n hx hb dX7_bears_46 rfl (lv_at hl 1 rfl) ?_
      refine tq_V (As := [.int x1]) (rest := []) (ws := (oh_W n a C)) ⟨hx, hb, hml, hown, htg⟩ (e_X7_axleOf l D E G a C n hn hT x1 (rg_w u_4.1 (by decide))) (cwV 1 htg (oh_gV q_1110 q_1112 q_31 q_73 q_1113) rfl rfl rfl pdVX7_axleOf ⟨Nat.le_of_ble_eq_true rfl, Nat.le_of_ble_eq_true rfl⟩) hK hP hG hS (va_recv hK hP (ci := 7) (q0 := 0) rfl (oh_wg (Nat.lt_of_lt_of_le (by decide) hn) (sM_0 hT))) rfl hl.1 rfl (Nat.le_of_ble_eq_true rfl) dX7_bears_47 ⟨Nat.le_of_ble_eq_true rfl, Nat.le_of_ble_eq_true rfl⟩ (fun r_6 hq_7 => ?_)
      rw [hQ]
      exact W.iret (v := r_6) hx hb hr (fun t ht hW => ⟨⟨r_6, C, rfl, ⟨hT, hF, ⟨hR, (fun A hA hok => by have hb := (show 0 ≤ x1 ∧ x1 < A 5 0 1 by rw [← (show gi (C 0) 11 = A 5 0 1 from hA.1 1 (by decide))]; exact u_4.2); have i1 : rg x1 0 15 := (rg_w (lo := 0) (hi := 15) u_4.1 (by decide)); have b1 : ga (C (48 + (x1).toNatClampNeg)) ((1 : Int32)).toNatClampNeg = A 1 x1.toNatClampNeg 1 := colM_v (t := 1) hA (by decide) i1 (by decide) hb.2 (by unfold vis; omega); have b3 : ga (C (48 + (x1).toNatClampNeg)) ((3 : Int32)).toNatClampNeg = A 1 x1.toNatClampNeg 3 := colM_v (t := 1) hA (by decide) i1 (by decide) hb.2 (by unfold vis; omega); have b4 : ga (C (48 + (x1).toNatClampNeg)) ((4 : Int32)).toNatClampNeg = A 1 x1.toNatClampNeg 4 := colM_v (t := 1) hA (by decide) i1 (by decide) hb.2 (by unfold vis; omega); have b5 : ga (C (48 + (x1).toNatClampNeg)) ((5 : Int32)).toNatClampNeg = A 1 x1.toNatClampNeg 5 := colM_v (t := 1) hA (by decide) i1 (by decide) hb.2 (by unfold vis; omega); have b7 : ga (C (48 + (x1).toNatClampNeg)) ((7 : Int32)).toNatClampNeg = A 1 x1.toNatClampNeg 7 := colM_v (t := 1) hA (by decide) i1 (by decide) hb.2 (by unfold vis; omega); have b8 : ga (C (48 + (x1).toNatClampNeg)) ((8 : Int32)).toNatClampNeg = A 1 x1.toNatClampNeg 8 := colM_v (t := 1) hA (by decide) i1 (by decide) hb.2 (by unfold vis; omega); have b9 : ga (C (48 + (x1).toNatClampNeg)) ((9 : Int32)).toNatClampNeg = A 1 x1.toNatClampNeg 9 := colM_v (t := 1) hA (by decide) i1 (by decide) hb.2 (by unfold vis; omega); have bf : ga (C 13) ((2 : Int32)).toNatClampNeg = A 4 0 2 := hA.2.1 2 (by decide); have hv := hok.2.2.2.1 x1.toNatClampNeg (by rw [oh_nat i1 (by decide)]; exact Int32.lt_iff_toInt_lt.mp hb.2); have hk : (ga (C (48 + (x1).toNatClampNeg)) ((1 : Int32)).toNatClampNeg).toInt ≤ 5 := (by rw [b1]; exact hv.2.1.2); have hf : rg (ga (C (48 + (x1).toNatClampNeg)) ((8 : Int32)).toNatClampNeg) 0 1 := (by rw [b8]; exact hv.2.2.2.2.2.2.2.2.1); exact Eq.trans (by rw [hq_7 hk, b1, b3, b8, b9, bf]; rfl) (Eq.trans (pif_pos hb) (pif_pos c_5)).symm)⟩⟩, ⟨by rw [ht]; exact hP, hD⟩⟩, hS.F ht⟩) hS.2.2 dX7_bears_50
    · refine lv_aload_n hx hb dX7_bears_19 rfl (lv_at hl 0 rfl) ?_
      refine lv_iload_n hx hb dX7_bears_20 rfl (lv_at hl 1 rfl) ?_
      refine lv_aload_n hx hb dX7_bears_21 rfl (lv_at hl 0 rfl) ?_
      refine va_get (D := D) (ci := 7) (v := .ref (a 10)) (C := RX7) (T := TX7) (N := 29) hx hb htg ig_7 hown hK hP 0 (oh_wg (Nat.lt_of_lt_of_le (by decide) hn) (sM_0 hT)) rfl 12 (by decide) (htg _ q_985) (fun _ h9 => h9) rfl dX7_bears_22 ?_
      refine lv_iload_n hx hb dX7_bears_25 rfl (lv_at hl 1 rfl) ?_
      have n_8 : vp_in x1 16 := (rg_in u_4.1 (by decide))
      have b_9 : (x1).toNatClampNeg < 16 := vp_lt n_8
      refine th_aald hx hb hK hP 10 2 (Nat.lt_of_lt_of_le (by decide) hn) (sM_10 hT) rfl n_8 dX7_bears_26 ?_
      refine lv_bipush (v := 7) hx hb dX7_bears_27 (by decide) ?_
      refine th_iald hx hb hK hP (48 + (x1).toNatClampNeg) (lt_blk b_9 hn (by decide)) (hT.bbridge b_9).1 (rg_in (rg_c (v := 7) (lo := 7) (hi := 7) (by decide)) (by decide)) dX7_bears_29 ?_
      refine lv_iconst (v := 1) hx hb dX7_bears_30 (by decide) ?_
      refine lv_icmp_ne (tgt := 38) hx hb dX7_bears_31 (by decide) (fun (c_10 : ¬ ((ga (C (48 + (x1).toNatClampNeg)) ((7 : Int32)).toNatClampNeg) = 1)) => ?_) (fun (c_10 : (ga (C (48 + (x1).toNatClampNeg)) ((7 : Int32)).toNatClampNeg) = 1) => ?_)
      · refine lv_iconst (v := 0) hx hb dX7_bears_38 (by decide) ?_
        refine tq_V (As := [.int x1, .int 0]) (rest := []) (ws := (oh_W n a C)) ⟨hx, hb, hml, hown, htg⟩ (e_X7_allOf l D E G a C n hn hT x1 (0 : Int32) (rg_w u_4.1 (by decide)) (rg_w (rg_c (v := 0) (lo := 0) (hi := 0) (by decide)) (by decide))) (cwV 2 htg (oh_gV q_1122 q_1124 q_34 q_73 q_1125) rfl rfl rfl pdVX7_allOf ⟨Nat.le_of_ble_eq_true rfl, Nat.le_of_ble_eq_true rfl⟩) hK hP hG hS (va_recv hK hP (ci := 7) (q0 := 0) rfl (oh_wg (Nat.lt_of_lt_of_le (by decide) hn) (sM_0 hT))) rfl hl.1 rfl (Nat.le_of_ble_eq_true rfl) dX7_bears_39 ⟨Nat.le_of_ble_eq_true rfl, Nat.le_of_ble_eq_true rfl⟩ (fun r_11 hq_12 => ?_)
        refine lv_goto (tgt := 50) hx hb dX7_bears_42 (by decide) ?_
        rw [hQ]
        exact W.iret (v := r_11) hx hb hr (fun t ht hW => ⟨⟨r_11, C, rfl, ⟨hT, hF, ⟨hR, (fun A hA hok => by have hb := (show 0 ≤ x1 ∧ x1 < A 5 0 1 by rw [← (show gi (C 0) 11 = A 5 0 1 from hA.1 1 (by decide))]; exact u_4.2); have i1 : rg x1 0 15 := (rg_w (lo := 0) (hi := 15) u_4.1 (by decide)); have b1 : ga (C (48 + (x1).toNatClampNeg)) ((1 : Int32)).toNatClampNeg = A 1 x1.toNatClampNeg 1 := colM_v (t := 1) hA (by decide) i1 (by decide) hb.2 (by unfold vis; omega); have b3 : ga (C (48 + (x1).toNatClampNeg)) ((3 : Int32)).toNatClampNeg = A 1 x1.toNatClampNeg 3 := colM_v (t := 1) hA (by decide) i1 (by decide) hb.2 (by unfold vis; omega); have b4 : ga (C (48 + (x1).toNatClampNeg)) ((4 : Int32)).toNatClampNeg = A 1 x1.toNatClampNeg 4 := colM_v (t := 1) hA (by decide) i1 (by decide) hb.2 (by unfold vis; omega); have b5 : ga (C (48 + (x1).toNatClampNeg)) ((5 : Int32)).toNatClampNeg = A 1 x1.toNatClampNeg 5 := colM_v (t := 1) hA (by decide) i1 (by decide) hb.2 (by unfold vis; omega); have b7 : ga (C (48 + (x1).toNatClampNeg)) ((7 : Int32)).toNatClampNeg = A 1 x1.toNatClampNeg 7 := colM_v (t := 1) hA (by decide) i1 (by decide) hb.2 (by unfold vis; omega); have b8 : ga (C (48 + (x1).toNatClampNeg)) ((8 : Int32)).toNatClampNeg = A 1 x1.toNatClampNeg 8 := colM_v (t := 1) hA (by decide) i1 (by decide) hb.2 (by unfold vis; omega); have b9 : ga (C (48 + (x1).toNatClampNeg)) ((9 : Int32)).toNatClampNeg = A 1 x1.toNatClampNeg 9 := colM_v (t := 1) hA (by decide) i1 (by decide) hb.2 (by unfold vis; omega); have bf : ga (C 13) ((2 : Int32)).toNatClampNeg = A 4 0 2 := hA.2.1 2 (by decide); have hv := hok.2.2.2.1 x1.toNatClampNeg (by rw [oh_nat i1 (by decide)]; exact Int32.lt_iff_toInt_lt.mp hb.2); have hk : (ga (C (48 + (x1).toNatClampNeg)) ((1 : Int32)).toNatClampNeg).toInt ≤ 5 := (by rw [b1]; exact hv.2.1.2); have hf : rg (ga (C (48 + (x1).toNatClampNeg)) ((8 : Int32)).toNatClampNeg) 0 1 := (by rw [b8]; exact hv.2.2.2.2.2.2.2.2.1); exact Eq.trans (by rw [hq_12 hk hf, bAlF_c (Q := ga (C (48 + (x1).toNatClampNeg)) ((7 : Int32)).toNatClampNeg = 1) ⟨fun h8 => absurd h8 (by decide), fun h8 => absurd h8 c_10⟩, b1, b4, b5, b7, b8, b9, bf]; rfl) (Eq.trans (pif_pos hb) (pif_neg c_5)).symm)⟩⟩, ⟨by rw [ht]; exact hP, hD⟩⟩, hS.F ht⟩) hS.2.2 dX7_bears_50
      · refine lv_iconst (v := 1) hx hb dX7_bears_34 (by decide) ?_
        refine lv_goto (tgt := 39) hx hb dX7_bears_35 (by decide) ?_
        refine tq_V (As := [.int x1, .int 1]) (rest := []) (ws := (oh_W n a C)) ⟨hx, hb, hml, hown, htg⟩ (e_X7_allOf l D E G a C n hn hT x1 (1 : Int32) (rg_w u_4.1 (by decide)) (rg_w (rg_c (v := 1) (lo := 1) (hi := 1) (by decide)) (by decide))) (cwV 2 htg (oh_gV q_1122 q_1124 q_34 q_73 q_1125) rfl rfl rfl pdVX7_allOf ⟨Nat.le_of_ble_eq_true rfl, Nat.le_of_ble_eq_true rfl⟩) hK hP hG hS (va_recv hK hP (ci := 7) (q0 := 0) rfl (oh_wg (Nat.lt_of_lt_of_le (by decide) hn) (sM_0 hT))) rfl hl.1 rfl (Nat.le_of_ble_eq_true rfl) dX7_bears_39 ⟨Nat.le_of_ble_eq_true rfl, Nat.le_of_ble_eq_true rfl⟩ (fun r_13 hq_14 => ?_)
        refine lv_goto (tgt := 50) hx hb dX7_bears_42 (by decide) ?_
        rw [hQ]
        exact W.iret (v := r_13) hx hb hr (fun t ht hW => ⟨⟨r_13, C, rfl, ⟨hT, hF, ⟨hR, (fun A hA hok => by have hb := (show 0 ≤ x1 ∧ x1 < A 5 0 1 by rw [← (show gi (C 0) 11 = A 5 0 1 from hA.1 1 (by decide))]; exact u_4.2); have i1 : rg x1 0 15 := (rg_w (lo := 0) (hi := 15) u_4.1 (by decide)); have b1 : ga (C (48 + (x1).toNatClampNeg)) ((1 : Int32)).toNatClampNeg = A 1 x1.toNatClampNeg 1 := colM_v (t := 1) hA (by decide) i1 (by decide) hb.2 (by unfold vis; omega); have b3 : ga (C (48 + (x1).toNatClampNeg)) ((3 : Int32)).toNatClampNeg = A 1 x1.toNatClampNeg 3 := colM_v (t := 1) hA (by decide) i1 (by decide) hb.2 (by unfold vis; omega); have b4 : ga (C (48 + (x1).toNatClampNeg)) ((4 : Int32)).toNatClampNeg = A 1 x1.toNatClampNeg 4 := colM_v (t := 1) hA (by decide) i1 (by decide) hb.2 (by unfold vis; omega); have b5 : ga (C (48 + (x1).toNatClampNeg)) ((5 : Int32)).toNatClampNeg = A 1 x1.toNatClampNeg 5 := colM_v (t := 1) hA (by decide) i1 (by decide) hb.2 (by unfold vis; omega); have b7 : ga (C (48 + (x1).toNatClampNeg)) ((7 : Int32)).toNatClampNeg = A 1 x1.toNatClampNeg 7 := colM_v (t := 1) hA (by decide) i1 (by decide) hb.2 (by unfold vis; omega); have b8 : ga (C (48 + (x1).toNatClampNeg)) ((8 : Int32)).toNatClampNeg = A 1 x1.toNatClampNeg 8 := colM_v (t := 1) hA (by decide) i1 (by decide) hb.2 (by unfold vis; omega); have b9 : ga (C (48 + (x1).toNatClampNeg)) ((9 : Int32)).toNatClampNeg = A 1 x1.toNatClampNeg 9 := colM_v (t := 1) hA (by decide) i1 (by decide) hb.2 (by unfold vis; omega); have bf : ga (C 13) ((2 : Int32)).toNatClampNeg = A 4 0 2 := hA.2.1 2 (by decide); have hv := hok.2.2.2.1 x1.toNatClampNeg (by rw [oh_nat i1 (by decide)]; exact Int32.lt_iff_toInt_lt.mp hb.2); have hk : (ga (C (48 + (x1).toNatClampNeg)) ((1 : Int32)).toNatClampNeg).toInt ≤ 5 := (by rw [b1]; exact hv.2.1.2); have hf : rg (ga (C (48 + (x1).toNatClampNeg)) ((8 : Int32)).toNatClampNeg) 0 1 := (by rw [b8]; exact hv.2.2.2.2.2.2.2.2.1); exact Eq.trans (by rw [hq_14 hk hf, bAlF_c (Q := ga (C (48 + (x1).toNatClampNeg)) ((7 : Int32)).toNatClampNeg = 1) ⟨fun _ => c_10, fun _ => rfl⟩, b1, b4, b5, b7, b8, b9, bf]; rfl) (Eq.trans (pif_pos hb) (pif_neg c_5)).symm)⟩⟩, ⟨by rw [ht]; exact hP, hD⟩⟩, hS.F ht⟩) hS.2.2 dX7_bears_50
  · have u_15 := hq_2.2.2 c_3
    refine lv_aload_n hx hb dX7_bears_8 rfl (lv_at hl 0 rfl) ?_
    refine lv_bipush (v := (-2)) hx hb dX7_bears_9 (by decide) ?_
    refine tm_V (As := [.int (-2)]) (rest := []) ⟨hx, hb, hml, hown, htg⟩ (c_X7_refuse l D E G _ a C n hn hT ((-2) : Int32) (rg_w (rg_c (v := (-2)) (lo := (-2)) (hi := (-2)) (by decide)) (by decide))) (cwV 1 htg (oh_gV q_1071 q_1073 q_29 q_73 q_1074) rfl rfl rfl pdVX7_refuse ⟨Nat.le_of_ble_eq_true rfl, Nat.le_of_ble_eq_true rfl⟩) hK hP hD hG hS hA (va_recv hK hP (ci := 7) (q0 := 0) rfl (oh_wg (Nat.lt_of_lt_of_le (by decide) hn) (sM_0 hT))) rfl hl.1 rfl (Nat.le_of_ble_eq_true rfl) dX7_bears_11 ⟨Nat.le_of_ble_eq_true rfl, Nat.le_of_ble_eq_true rfl⟩ (fun r_16 C_17 H locs hq_18 hP hD hS => ?_)
    obtain ⟨hT, f_19, hq_18⟩ := hq_18
    have hF := fr_tr hF f_19 (by decide) (by decide)
    refine W.widen (k := 0) (n := 0) (Nat.le_refl _) (Nat.le_refl _) ?_
    have t_20 := hT
    rw [hQ]
    exact W.iret (v := r_16) hx hb hr (fun t ht hW => ⟨⟨r_16, C_17, rfl, ⟨hT, hF, ⟨⟨hR.1.fr hF (by decide), hR.2.fr hF (by decide)⟩, (fun A hA hok => Eq.trans hq_18 (pif_neg (by rw [← (show gi (C 0) 11 = A 5 0 1 from hA.1 1 (by decide))]; exact u_15)).symm)⟩⟩, ⟨by rw [ht]; exact hP, hD⟩⟩, hS.F ht⟩) hS.2.2 dX7_bears_14

set_option maxHeartbeats 4000000 in
set_option maxRecDepth 100000 in
theorem e_X6_needs (l : Launch) (D : va_G) (E : Nat → ClassId) (G : Nat → Nat) (sz : Nat) (a : Nat → Nat) (C : Nat → va_E) (hT : TyX a E C) (x1 : Int32) (x2 : Int32) (x3 : Int32) : Met l yX6_needs (oh_w yX6_needs cX6_needs 4 (some .int)) ({ frames := 3, cells := 0, slots := 0, locals := 75 }) (oh_Pm D E G [.ref (a 0), .int x1, .int x2, .int x3] (oh_W 35 a C) sz) (va_Qi (fun r (u : Nat → va_E) => TyX a E u ∧ fr [(7, 8), (9, 10)] [] C u ∧ (∀ A : LA, absX 10 C A → okA A → r = spNeeds A x1 x2 x3)) (oh_B D (va_A (oh_W 35 a C) sz) (fun u => oh_W 35 a u)) (va_A (oh_W 35 a C) sz)) 0 0 (va_A (oh_W 35 a C) sz) := by
  refine Met.ofW (cc := cX6_needs) (maxL := 4) (ret := (some .int)) (by decide) rfl ?_
  intro p e s m args below meth c s₁ B hml hv
  obtain ⟨rfl, hsz, hP, hK, hD0, hG⟩ := hv
  have hx := B.exec
  have hb := B.bytes
  have hr := B.returns
  have hts := atoms_spec (ws := (oh_w yX6_needs cX6_needs 4 (some .int))) B.pre
  have htg : ∀ w ∈ oh_t, w.before _ s = true := fun w h => hts w (List.mem_cons_of_mem _ h)
  have hown : s.vm.findClass RX6 = some m.cls := findClass_of_methodNamed B.named
  have hlocks := B.notSynchronized
  have hT0 := hT
  subst hsz
  have hD := hD0.self (sz := s.heap.size)
  generalize hAe : va_A (oh_W 35 a C) s.heap.size = A at hD hG ⊢
  have hA : ∀ q : Nat, s.heap.size ≤ q → A q := fun q h => by rw [← hAe]; exact Or.inr h
  have hS : va_S A s.heap s.heap [] := va_S.rf
  have hF : fr [(7, 8), (9, 10)] [] C C := fr_rf
  have hl := lv_entry ([.ref (a 0), .int x1, .int x2, .int x3]) (n := 4) (Nat.le_of_ble_eq_true rfl)
  rw [lg_entry_eq]
  generalize (lg_sl ([.ref (a 0), .int x1, .int x2, .int x3]) ++ List.replicate (4 - (lg_sl ([.ref (a 0), .int x1, .int x2, .int x3])).length) Slot.unset).toArray = ls at hl ⊢
  have hl : lv_has ls 4 [(0, .ref (a 0)), (1, .int x1), (2, .int x2), (3, .int x3)] := hl
  refine oh_genQ (fun Q hQ => ?_)
  refine lv_aload_n hx hb dX6_needs_0 rfl (lv_at hl 0 rfl) ?_
  refine lv_iload_n hx hb dX6_needs_1 rfl (lv_at hl 1 rfl) ?_
  refine lv_iload_n hx hb dX6_needs_2 rfl (lv_at hl 2 rfl) ?_
  refine tq_V (As := [.int x1, .int x2]) (rest := []) (ws := (oh_W 35 a C)) ⟨hx, hb, hml, hown, htg⟩ (e_X6_isPack l D E G a C hT x1 x2) (cwV 2 htg (oh_gV q_695 q_697 q_16 q_66 q_698) rfl rfl rfl pdVX6_isPack ⟨Nat.le_of_ble_eq_true rfl, Nat.le_of_ble_eq_true rfl⟩) hK hP hG hS (va_recv hK hP (ci := 6) (q0 := 0) rfl (oh_wg (by decide) (sX_0 hT))) rfl hl.1 rfl (Nat.le_of_ble_eq_true rfl) dX6_needs_3 ⟨Nat.le_of_ble_eq_true rfl, Nat.le_of_ble_eq_true rfl⟩ (fun r_1 hq_2 => ?_)
  refine lv_if_eq (tgt := 17) hx hb dX6_needs_6 (by decide) (fun (c_3 : r_1 = 0) => ?_) (fun (c_3 : ¬ (r_1 = 0)) => ?_)
  · have u_4 := hq_2.2.2 c_3
    refine lv_aload_n hx hb dX6_needs_17 rfl (lv_at hl 0 rfl) ?_
    refine lv_bipush (v := (-2)) hx hb dX6_needs_18 (by decide) ?_
    refine tm_V (As := [.int (-2)]) (rest := []) ⟨hx, hb, hml, hown, htg⟩ (c_X6_refuse l D E G _ a C hT ((-2) : Int32)) (cwV 1 htg (oh_gV q_296 q_298 q_0 q_66 q_299) rfl rfl rfl pdVX6_refuse ⟨Nat.le_of_ble_eq_true rfl, Nat.le_of_ble_eq_true rfl⟩) hK hP hD hG hS hA (va_recv hK hP (ci := 6) (q0 := 0) rfl (oh_wg (by decide) (sX_0 hT))) rfl hl.1 rfl (Nat.le_of_ble_eq_true rfl) dX6_needs_20 ⟨Nat.le_of_ble_eq_true rfl, Nat.le_of_ble_eq_true rfl⟩ (fun r_5 C_6 H locs hq_7 hP hD hS => ?_)
    obtain ⟨hT, f_8, hq_7⟩ := hq_7
    have hF := fr_tr hF f_8 (by decide) (by decide)
    refine W.widen (k := 0) (n := 0) (Nat.le_refl _) (Nat.le_refl _) ?_
    have t_9 := hT
    rw [hQ]
    exact W.iret (v := r_5) hx hb hr (fun t ht hW => ⟨⟨r_5, C_6, rfl, ⟨hT, hF, (fun A hA hok => Eq.trans hq_7 (pif_neg (fun h8 => (show ¬ okPk (A 5 0 2) (A 5 0 3) x1 x2 by rw [← (show ga (C 10) ((2 : Int32)).toNatClampNeg = A 5 0 2 from hA.1 2 (by decide)), ← (show ga (C 10) ((3 : Int32)).toNatClampNeg = A 5 0 3 from hA.1 3 (by decide))]; exact u_4) h8.1)).symm)⟩, ⟨by rw [ht]; exact hP, hD⟩⟩, hS.F ht⟩) hS.2.2 dX6_needs_23
  · have u_10 := hq_2.2.1 c_3
    refine lv_aload_n hx hb dX6_needs_9 rfl (lv_at hl 0 rfl) ?_
    refine lv_iload_n hx hb dX6_needs_10 rfl (lv_at hl 3 rfl) ?_
    refine tq_V (As := [.int x3]) (rest := []) (ws := (oh_W 35 a C)) ⟨hx, hb, hml, hown, htg⟩ (e_X6_isBridge l D E G a C hT x3) (cwV 1 htg (oh_gV q_366 q_368 q_2 q_66 q_369) rfl rfl rfl pdVX6_isBridge ⟨Nat.le_of_ble_eq_true rfl, Nat.le_of_ble_eq_true rfl⟩) hK hP hG hS (va_recv hK hP (ci := 6) (q0 := 0) rfl (oh_wg (by decide) (sX_0 hT))) rfl hl.1 rfl (Nat.le_of_ble_eq_true rfl) dX6_needs_11 ⟨Nat.le_of_ble_eq_true rfl, Nat.le_of_ble_eq_true rfl⟩ (fun r_11 hq_12 => ?_)
    refine lv_if_ne (tgt := 24) hx hb dX6_needs_14 (by decide) (fun (c_13 : ¬ (r_11 = 0)) => ?_) (fun (c_13 : r_11 = 0) => ?_)
    · have u_14 := hq_12.2.1 c_13
      refine lv_aload_n hx hb dX6_needs_24 rfl (lv_at hl 0 rfl) ?_
      refine va_get (D := D) (ci := 6) (v := .ref (a 3)) (C := RX6) (T := TX6) (N := 9) hx hb htg ig_6 hown hK hP 0 (oh_wg (by decide) (sX_0 hT)) rfl 3 (by decide) (htg _ q_261) (fun _ h9 => h9) rfl dX6_needs_25 ?_
      refine va_get (D := D) (ci := 5) (v := .ref (a 9)) (C := RX5) (T := TX5) (N := 7) hx hb htg ig_5 hown hK hP 3 (oh_wg (by decide) (sX_3 hT)) rfl 1 (by decide) (htg _ q_169) (fun _ h9 => h9) rfl dX6_needs_28 ?_
      refine lv_aload_n hx hb dX6_needs_31 rfl (lv_at hl 0 rfl) ?_
      refine va_get (D := D) (ci := 6) (v := .ref (a 1)) (C := RX6) (T := TX6) (N := 9) hx hb htg ig_6 hown hK hP 0 (oh_wg (by decide) (sX_0 hT)) rfl 0 (by decide) (htg _ q_258) (fun _ h9 => h9) rfl dX6_needs_32 ?_
      refine lv_iload_n hx hb dX6_needs_35 rfl (lv_at hl 1 rfl) ?_
      refine lv_iload_n hx hb dX6_needs_36 rfl (lv_at hl 2 rfl) ?_
      refine tm_Vv (As := [.ref (a 1), .int x1, .int x2]) (rest := []) ⟨hx, hb, hml, hown, htg⟩ (e2_X1_take l D E G _ a C hT x1 x2 (rg_w u_10.1 (by decide))) (cwV 3 htg (oh_gV q_703 q_704 q_705 q_69 q_706) rfl rfl rfl pdVX1_take ⟨Nat.le_of_ble_eq_true rfl, Nat.le_of_ble_eq_true rfl⟩) hK hP hD hG hS hA (va_recv hK hP (ci := 1) (q0 := 9) rfl (oh_wg (by decide) (sX_9 hT))) rfl hl.1 rfl (Nat.le_of_ble_eq_true rfl) dX6_needs_37 ⟨Nat.le_of_ble_eq_true rfl, Nat.le_of_ble_eq_true rfl⟩ (fun C_16 H locs hq_17 hP hD hS => ?_)
      obtain ⟨hT, f_18, hq_17⟩ := hq_17
      have hF := fr_tr hF f_18 (by decide) (by decide)
      refine W.widen (k := 0) (n := 0) (Nat.le_refl _) (Nat.le_refl _) ?_
      have t_19 := hT
      refine lv_aload_n hx hb dX6_needs_40 rfl (lv_at hl 0 rfl) ?_
      refine va_get (D := D) (ci := 6) (v := .ref (a 3)) (C := RX6) (T := TX6) (N := 9) hx hb htg ig_6 hown hK hP 0 (oh_wg (by decide) (sX_0 hT)) rfl 3 (by decide) (htg _ q_261) (fun _ h9 => h9) rfl dX6_needs_41 ?_
      refine va_get (D := D) (ci := 5) (v := .ref (a 9)) (C := RX5) (T := TX5) (N := 7) hx hb htg ig_5 hown hK hP 3 (oh_wg (by decide) (sX_3 hT)) rfl 1 (by decide) (htg _ q_169) (fun _ h9 => h9) rfl dX6_needs_44 ?_
      refine lv_aload_n hx hb dX6_needs_47 rfl (lv_at hl 0 rfl) ?_
      refine va_get (D := D) (ci := 6) (v := .ref (a 1)) (C := RX6) (T := TX6) (N := 9) hx hb htg ig_6 hown hK hP 0 (oh_wg (by decide) (sX_0 hT)) rfl 0 (by decide) (htg _ q_258) (fun _ h9 => h9) rfl dX6_needs_48 ?_
      refine lv_iload_n hx hb dX6_needs_51 rfl (lv_at hl 3 rfl) ?_
      refine tq_V (As := [.ref (a 1), .int x3]) (rest := []) (ws := (oh_W 35 a C_16)) ⟨hx, hb, hml, hown, htg⟩ (e_X1_needsOf l D E G a C_16 hT x3 (rg_w u_14.1 (by decide))) (cwV 2 htg (oh_gV q_737 q_738 q_739 q_69 q_740) rfl rfl rfl pdVX1_needsOf ⟨Nat.le_of_ble_eq_true rfl, Nat.le_of_ble_eq_true rfl⟩) hK hP hG hS (va_recv hK hP (ci := 1) (q0 := 9) rfl (oh_wg (by decide) (sX_9 hT))) rfl hl.1 rfl (Nat.le_of_ble_eq_true rfl) dX6_needs_52 ⟨Nat.le_of_ble_eq_true rfl, Nat.le_of_ble_eq_true rfl⟩ (fun r_20 hq_21 => ?_)
      rw [hQ]
      exact W.iret (v := r_20) hx hb hr (fun t ht hW => ⟨⟨r_20, C_16, rfl, ⟨hT, hF, (fun A hA hok => by have hp := (show okPk (A 5 0 2) (A 5 0 3) x1 x2 by rw [← (show ga (C 10) ((2 : Int32)).toNatClampNeg = A 5 0 2 from hA.1 2 (by decide)), ← (show ga (C 10) ((3 : Int32)).toNatClampNeg = A 5 0 3 from hA.1 3 (by decide))]; exact u_10.2); have h3 := (show 0 ≤ x3 ∧ x3 < A 5 0 1 by rw [← (show ga (C 10) ((1 : Int32)).toNatClampNeg = A 5 0 1 from hA.1 1 (by decide))]; exact u_14.2); exact Eq.trans (ndX (absX_eq hA (fr_all f_18 10 15 (by decide))) (hq_17 A hA hp.1.2) (rg_w (lo := 0) (hi := 15) u_14.1 (by decide)) h3.2 hq_21) (pif_pos ⟨hp, h3⟩).symm)⟩, ⟨by rw [ht]; exact hP, hD⟩⟩, hS.F ht⟩) hS.2.2 dX6_needs_55
    · have u_22 := hq_12.2.2 c_13
      refine lv_aload_n hx hb dX6_needs_17 rfl (lv_at hl 0 rfl) ?_
      refine lv_bipush (v := (-2)) hx hb dX6_needs_18 (by decide) ?_
      refine tm_V (As := [.int (-2)]) (rest := []) ⟨hx, hb, hml, hown, htg⟩ (c_X6_refuse l D E G _ a C hT ((-2) : Int32)) (cwV 1 htg (oh_gV q_296 q_298 q_0 q_66 q_299) rfl rfl rfl pdVX6_refuse ⟨Nat.le_of_ble_eq_true rfl, Nat.le_of_ble_eq_true rfl⟩) hK hP hD hG hS hA (va_recv hK hP (ci := 6) (q0 := 0) rfl (oh_wg (by decide) (sX_0 hT))) rfl hl.1 rfl (Nat.le_of_ble_eq_true rfl) dX6_needs_20 ⟨Nat.le_of_ble_eq_true rfl, Nat.le_of_ble_eq_true rfl⟩ (fun r_23 C_24 H locs hq_25 hP hD hS => ?_)
      obtain ⟨hT, f_26, hq_25⟩ := hq_25
      have hF := fr_tr hF f_26 (by decide) (by decide)
      refine W.widen (k := 0) (n := 0) (Nat.le_refl _) (Nat.le_refl _) ?_
      have t_27 := hT
      rw [hQ]
      exact W.iret (v := r_23) hx hb hr (fun t ht hW => ⟨⟨r_23, C_24, rfl, ⟨hT, hF, (fun A hA hok => Eq.trans hq_25 (pif_neg (fun h8 => by have h7 := h8.2; rw [← (show ga (C 10) ((1 : Int32)).toNatClampNeg = A 5 0 1 from hA.1 1 (by decide))] at h7; exact u_22 h7)).symm)⟩, ⟨by rw [ht]; exact hP, hD⟩⟩, hS.F ht⟩) hS.2.2 dX6_needs_23

set_option maxHeartbeats 4000000 in
set_option maxRecDepth 100000 in
theorem e_X7_needs (l : Launch) (D : va_G) (E : Nat → ClassId) (G : Nat → Nat) (sz : Nat) (a : Nat → Nat) (C : Nat → va_E) (n : Nat) (hn : 74 ≤ n) (hT : TyM a E C) (x1 : Int32) (x2 : Int32) (x3 : Int32) (hR : RelM C) : Met l yX7_needs (oh_w yX7_needs cX7_needs 4 (some .int)) ({ frames := 3, cells := 0, slots := 0, locals := 73 }) (oh_Pm D E G [.ref (a 0), .int x1, .int x2, .int x3] (oh_W n a C) sz) (va_Qi (fun r (u : Nat → va_E) => TyM a E u ∧ fr [(8, 9)] [] C u ∧ (RelM u) ∧ (∀ A : LA, absM C A → okA A → r = spNeeds A x1 x2 x3)) (oh_B D (va_A (oh_W n a C) sz) (fun u => oh_W n a u)) (va_A (oh_W n a C) sz)) 0 0 (va_A (oh_W n a C) sz) := by
  refine Met.ofW (cc := cX7_needs) (maxL := 4) (ret := (some .int)) (by decide) rfl ?_
  intro p e s m args below meth c s₁ B hml hv
  obtain ⟨rfl, hsz, hP, hK, hD0, hG⟩ := hv
  have hx := B.exec
  have hb := B.bytes
  have hr := B.returns
  have hts := atoms_spec (ws := (oh_w yX7_needs cX7_needs 4 (some .int))) B.pre
  have htg : ∀ w ∈ oh_t, w.before _ s = true := fun w h => hts w (List.mem_cons_of_mem _ h)
  have hown : s.vm.findClass RX7 = some m.cls := findClass_of_methodNamed B.named
  have hlocks := B.notSynchronized
  have hT0 := hT
  subst hsz
  have hD := hD0.self (sz := s.heap.size)
  generalize hAe : va_A (oh_W n a C) s.heap.size = A at hD hG ⊢
  have hA : ∀ q : Nat, s.heap.size ≤ q → A q := fun q h => by rw [← hAe]; exact Or.inr h
  have hS : va_S A s.heap s.heap [] := va_S.rf
  have hF : fr [(8, 9)] [] C C := fr_rf
  have hl := lv_entry ([.ref (a 0), .int x1, .int x2, .int x3]) (n := 4) (Nat.le_of_ble_eq_true rfl)
  rw [lg_entry_eq]
  generalize (lg_sl ([.ref (a 0), .int x1, .int x2, .int x3]) ++ List.replicate (4 - (lg_sl ([.ref (a 0), .int x1, .int x2, .int x3])).length) Slot.unset).toArray = ls at hl ⊢
  have hl : lv_has ls 4 [(0, .ref (a 0)), (1, .int x1), (2, .int x2), (3, .int x3)] := hl
  refine oh_genQ (fun Q hQ => ?_)
  refine lv_aload_n hx hb dX7_needs_0 rfl (lv_at hl 0 rfl) ?_
  refine lv_iload_n hx hb dX7_needs_1 rfl (lv_at hl 1 rfl) ?_
  refine lv_iload_n hx hb dX7_needs_2 rfl (lv_at hl 2 rfl) ?_
  refine tq_V (As := [.int x1, .int x2]) (rest := []) (ws := (oh_W n a C)) ⟨hx, hb, hml, hown, htg⟩ (e_X7_isPack l D E G a C n hn hT x1 x2 hR.1) (cwV 2 htg (oh_gV q_1290 q_1292 q_50 q_73 q_1293) rfl rfl rfl pdVX7_isPack ⟨Nat.le_of_ble_eq_true rfl, Nat.le_of_ble_eq_true rfl⟩) hK hP hG hS (va_recv hK hP (ci := 7) (q0 := 0) rfl (oh_wg (Nat.lt_of_lt_of_le (by decide) hn) (sM_0 hT))) rfl hl.1 rfl (Nat.le_of_ble_eq_true rfl) dX7_needs_3 ⟨Nat.le_of_ble_eq_true rfl, Nat.le_of_ble_eq_true rfl⟩ (fun r_1 hq_2 => ?_)
  refine lv_if_eq (tgt := 27) hx hb dX7_needs_6 (by decide) (fun (c_3 : r_1 = 0) => ?_) (fun (c_3 : ¬ (r_1 = 0)) => ?_)
  · have u_4 := hq_2.2.2 c_3
    refine lv_aload_n hx hb dX7_needs_27 rfl (lv_at hl 0 rfl) ?_
    refine lv_bipush (v := (-2)) hx hb dX7_needs_28 (by decide) ?_
    refine tm_V (As := [.int (-2)]) (rest := []) ⟨hx, hb, hml, hown, htg⟩ (c_X7_refuse l D E G _ a C n hn hT ((-2) : Int32) (rg_w (rg_c (v := (-2)) (lo := (-2)) (hi := (-2)) (by decide)) (by decide))) (cwV 1 htg (oh_gV q_1071 q_1073 q_29 q_73 q_1074) rfl rfl rfl pdVX7_refuse ⟨Nat.le_of_ble_eq_true rfl, Nat.le_of_ble_eq_true rfl⟩) hK hP hD hG hS hA (va_recv hK hP (ci := 7) (q0 := 0) rfl (oh_wg (Nat.lt_of_lt_of_le (by decide) hn) (sM_0 hT))) rfl hl.1 rfl (Nat.le_of_ble_eq_true rfl) dX7_needs_30 ⟨Nat.le_of_ble_eq_true rfl, Nat.le_of_ble_eq_true rfl⟩ (fun r_5 C_6 H locs hq_7 hP hD hS => ?_)
    obtain ⟨hT, f_8, hq_7⟩ := hq_7
    have hF := fr_tr hF f_8 (by decide) (by decide)
    refine W.widen (k := 0) (n := 0) (Nat.le_refl _) (Nat.le_refl _) ?_
    have t_9 := hT
    rw [hQ]
    exact W.iret (v := r_5) hx hb hr (fun t ht hW => ⟨⟨r_5, C_6, rfl, ⟨hT, hF, ⟨⟨hR.1.fr hF (by decide), hR.2.fr hF (by decide)⟩, (fun A hA hok => Eq.trans hq_7 (pif_neg (fun h8 => (show ¬ okPk (A 5 0 2) (A 5 0 3) x1 x2 by rw [← (show gi (C 0) 13 = A 5 0 2 from hA.1 2 (by decide)), ← (show gi (C 0) 15 = A 5 0 3 from hA.1 3 (by decide))]; exact u_4) h8.1)).symm)⟩⟩, ⟨by rw [ht]; exact hP, hD⟩⟩, hS.F ht⟩) hS.2.2 dX7_needs_33
  · have u_10 := hq_2.2.1 c_3
    refine lv_aload_n hx hb dX7_needs_9 rfl (lv_at hl 0 rfl) ?_
    refine lv_iload_n hx hb dX7_needs_10 rfl (lv_at hl 3 rfl) ?_
    refine tq_V (As := [.int x3]) (rest := []) (ws := (oh_W n a C)) ⟨hx, hb, hml, hown, htg⟩ (e_X7_isBridge l D E G a C n hn hT x3) (cwV 1 htg (oh_gV q_1098 q_1100 q_30 q_73 q_1101) rfl rfl rfl pdVX7_isBridge ⟨Nat.le_of_ble_eq_true rfl, Nat.le_of_ble_eq_true rfl⟩) hK hP hG hS (va_recv hK hP (ci := 7) (q0 := 0) rfl (oh_wg (Nat.lt_of_lt_of_le (by decide) hn) (sM_0 hT))) rfl hl.1 rfl (Nat.le_of_ble_eq_true rfl) dX7_needs_11 ⟨Nat.le_of_ble_eq_true rfl, Nat.le_of_ble_eq_true rfl⟩ (fun r_11 hq_12 => ?_)
    refine lv_if_eq (tgt := 27) hx hb dX7_needs_14 (by decide) (fun (c_13 : r_11 = 0) => ?_) (fun (c_13 : ¬ (r_11 = 0)) => ?_)
    · have u_14 := hq_12.2.2 c_13
      refine lv_aload_n hx hb dX7_needs_27 rfl (lv_at hl 0 rfl) ?_
      refine lv_bipush (v := (-2)) hx hb dX7_needs_28 (by decide) ?_
      refine tm_V (As := [.int (-2)]) (rest := []) ⟨hx, hb, hml, hown, htg⟩ (c_X7_refuse l D E G _ a C n hn hT ((-2) : Int32) (rg_w (rg_c (v := (-2)) (lo := (-2)) (hi := (-2)) (by decide)) (by decide))) (cwV 1 htg (oh_gV q_1071 q_1073 q_29 q_73 q_1074) rfl rfl rfl pdVX7_refuse ⟨Nat.le_of_ble_eq_true rfl, Nat.le_of_ble_eq_true rfl⟩) hK hP hD hG hS hA (va_recv hK hP (ci := 7) (q0 := 0) rfl (oh_wg (Nat.lt_of_lt_of_le (by decide) hn) (sM_0 hT))) rfl hl.1 rfl (Nat.le_of_ble_eq_true rfl) dX7_needs_30 ⟨Nat.le_of_ble_eq_true rfl, Nat.le_of_ble_eq_true rfl⟩ (fun r_15 C_16 H locs hq_17 hP hD hS => ?_)
      obtain ⟨hT, f_18, hq_17⟩ := hq_17
      have hF := fr_tr hF f_18 (by decide) (by decide)
      refine W.widen (k := 0) (n := 0) (Nat.le_refl _) (Nat.le_refl _) ?_
      have t_19 := hT
      rw [hQ]
      exact W.iret (v := r_15) hx hb hr (fun t ht hW => ⟨⟨r_15, C_16, rfl, ⟨hT, hF, ⟨⟨hR.1.fr hF (by decide), hR.2.fr hF (by decide)⟩, (fun A hA hok => Eq.trans hq_17 (pif_neg (fun h8 => by have h7 := h8.2; rw [← (show gi (C 0) 11 = A 5 0 1 from hA.1 1 (by decide))] at h7; exact u_14 h7)).symm)⟩⟩, ⟨by rw [ht]; exact hP, hD⟩⟩, hS.F ht⟩) hS.2.2 dX7_needs_33
    · have u_20 := hq_12.2.1 c_13
      refine lv_aload_n hx hb dX7_needs_17 rfl (lv_at hl 0 rfl) ?_
      refine lv_iload_n hx hb dX7_needs_18 rfl (lv_at hl 1 rfl) ?_
      refine lv_iload_n hx hb dX7_needs_19 rfl (lv_at hl 2 rfl) ?_
      refine lv_iload_n hx hb dX7_needs_20 rfl (lv_at hl 3 rfl) ?_
      refine tq_V (As := [.int x1, .int x2, .int x3]) (rest := []) (ws := (oh_W n a C)) ⟨hx, hb, hml, hown, htg⟩ (e_X7_needsOf l D E G a C n hn hT x1 x2 x3 (rg_w u_10.1 (by decide)) (rg_w u_20.1 (by decide)) u_10.2.1) (cwV 3 htg (oh_gV q_1310 q_1312 q_53 q_73 q_1313) rfl rfl rfl pdVX7_needsOf ⟨Nat.le_of_ble_eq_true rfl, Nat.le_of_ble_eq_true rfl⟩) hK hP hG hS (va_recv hK hP (ci := 7) (q0 := 0) rfl (oh_wg (Nat.lt_of_lt_of_le (by decide) hn) (sM_0 hT))) rfl hl.1 rfl (Nat.le_of_ble_eq_true rfl) dX7_needs_21 ⟨Nat.le_of_ble_eq_true rfl, Nat.le_of_ble_eq_true rfl⟩ (fun r_21 hq_22 => ?_)
      refine lv_goto (tgt := 33) hx hb dX7_needs_24 (by decide) ?_
      rw [hQ]
      exact W.iret (v := r_21) hx hb hr (fun t ht hW => ⟨⟨r_21, C, rfl, ⟨hT, hF, ⟨hR, (fun A hA hok => by have hp := (show okPk (A 5 0 2) (A 5 0 3) x1 x2 by rw [← (show gi (C 0) 13 = A 5 0 2 from hA.1 2 (by decide)), ← (show gi (C 0) 15 = A 5 0 3 from hA.1 3 (by decide))]; exact u_10.2.2.2); have h3 := (show 0 ≤ x3 ∧ x3 < A 5 0 1 by rw [← (show gi (C 0) 11 = A 5 0 1 from hA.1 1 (by decide))]; exact u_20.2); exact Eq.trans (hq_22 A hA hok hp.1.2 h3.2) (pif_pos ⟨hp, h3⟩).symm)⟩⟩, ⟨by rw [ht]; exact hP, hD⟩⟩, hS.F ht⟩) hS.2.2 dX7_needs_33
