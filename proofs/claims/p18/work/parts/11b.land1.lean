set_option maxHeartbeats 4000000 in
set_option maxRecDepth 100000 in
theorem c_X0_addRoad (l : Launch) (D : va_G) (E : Nat → ClassId) (G : Nat → Nat) (sz : Nat) (a : Nat → Nat) (C : Nat → va_E) (hT : TyX a E C) (x1 : Int32) (x2 : Int32) (x3 : Int32) (x4 : Int32) (x5 : Int32) (x6 : Int32) (hx1 : rg x1 0 15) (hx2 : rg x2 0 15) (hroom : rg (ga (C 10) ((0 : Int32)).toNatClampNeg) 0 23) : Met l yX0_addRoad (oh_w yX0_addRoad cX0_addRoad 8 (some .int)) ({ frames := 0, cells := 0, slots := 0, locals := 0 }) (oh_Pm D E G [.ref (a 1), .int x1, .int x2, .int x3, .int x4, .int x5, .int x6] (oh_W 35 a C) sz) (va_Qi (fun r (u : Nat → va_E) => TyX a E u ∧ fr [(10, 12)] [] C u ∧ True) (oh_B D (va_A (oh_W 35 a C) sz) (fun u => oh_W 35 a u)) (va_A (oh_W 35 a C) sz)) 0 0 (va_A (oh_W 35 a C) sz) := by
  refine Met.ofW (cc := cX0_addRoad) (maxL := 8) (ret := (some .int)) (by decide) rfl ?_
  intro p e s m args below meth c s₁ B hml hv
  obtain ⟨rfl, hsz, hP, hK, hD0, hG⟩ := hv
  have hx := B.exec
  have hb := B.bytes
  have hr := B.returns
  have hts := atoms_spec (ws := (oh_w yX0_addRoad cX0_addRoad 8 (some .int))) B.pre
  have htg : ∀ w ∈ oh_t, w.before _ s = true := fun w h => hts w (List.mem_cons_of_mem _ h)
  have hown : s.vm.findClass RX0 = some m.cls := findClass_of_methodNamed B.named
  have hlocks := B.notSynchronized
  have hT0 := hT
  subst hsz
  have hD := hD0.self (sz := s.heap.size)
  generalize hAe : va_A (oh_W 35 a C) s.heap.size = A at hD hG ⊢
  have hA : ∀ q : Nat, s.heap.size ≤ q → A q := fun q h => by rw [← hAe]; exact Or.inr h
  have hS : va_S A s.heap s.heap [] := va_S.rf
  have hF : fr [(10, 12)] [] C C := fr_rf
  have hl := lv_entry ([.ref (a 1), .int x1, .int x2, .int x3, .int x4, .int x5, .int x6]) (n := 8) (Nat.le_of_ble_eq_true rfl)
  rw [lg_entry_eq]
  generalize (lg_sl ([.ref (a 1), .int x1, .int x2, .int x3, .int x4, .int x5, .int x6]) ++ List.replicate (8 - (lg_sl ([.ref (a 1), .int x1, .int x2, .int x3, .int x4, .int x5, .int x6])).length) Slot.unset).toArray = ls at hl ⊢
  have hl : lv_has ls 8 [(0, .ref (a 1)), (1, .int x1), (2, .int x2), (3, .int x3), (4, .int x4), (5, .int x5), (6, .int x6)] := hl
  refine oh_genQ (fun Q hQ => ?_)
  refine lv_aload_n hx hb dX0_addRoad_0 rfl (lv_at hl 0 rfl) ?_
  refine va_get (D := D) (ci := 0) (v := .ref (a 10)) (C := RX0) (T := TX0) (N := 8) hx hb htg ig_0 hown hK hP 1 (oh_wg (by decide) (sX_1 hT)) rfl 0 (by decide) (htg _ q_97) (fun _ h9 => h9) rfl dX0_addRoad_1 ?_
  refine lv_iconst (v := 0) hx hb dX0_addRoad_4 (by decide) ?_
  refine th_iald hx hb hK hP 10 (by decide) (sX_10 hT) (rg_in (rg_c (v := 0) (lo := 0) (hi := 0) (by decide)) (by decide)) dX0_addRoad_5 ?_
  refine lv_bipush (v := 7) hx hb dX0_addRoad_6 (by decide) ?_
  refine lv_imul hx hb dX0_addRoad_8 ?_
  refine lv_istore (lv' := [(7, .int ((ga (C 10) ((0 : Int32)).toNatClampNeg) * 7)), (0, .ref (a 1)), (1, .int x1), (2, .int x2), (3, .int x3), (4, .int x4), (5, .int x5), (6, .int x6)]) hx hb dX0_addRoad_9 hl (by decide) rfl (fun ls hl => ?_)
  refine lv_aload_n hx hb dX0_addRoad_11 rfl (lv_at hl 1 rfl) ?_
  refine va_get (D := D) (ci := 0) (v := .ref (a 11)) (C := RX0) (T := TX0) (N := 8) hx hb htg ig_0 hown hK hP 1 (oh_wg (by decide) (sX_1 hT)) rfl 1 (by decide) (htg _ q_101) (fun _ h9 => h9) rfl dX0_addRoad_12 ?_
  refine lv_iload hx hb dX0_addRoad_15 (lv_at hl 0 rfl) ?_
  refine lv_iconst (v := 0) hx hb dX0_addRoad_17 (by decide) ?_
  refine lv_iadd hx hb dX0_addRoad_18 ?_
  refine lv_iload_n hx hb dX0_addRoad_19 rfl (lv_at hl 2 rfl) ?_
  have n_1 : vp_in (((ga (C 10) ((0 : Int32)).toNatClampNeg) * 7) + 0) 168 := (rg_in (rg_add (lo := 0) (hi := 161) (rg_mul (lo := 0) (hi := 161) hroom (rg_c (v := 7) (lo := 7) (hi := 7) (by decide)) (by decide)) (rg_c (v := 0) (lo := 0) (hi := 0) (by decide)) (by decide)) (by decide))
  refine th_iast (T := TyX a E) (Rl := fr [(10, 12)] [] C) hx hb hK hP hD hS 11 (by decide) (sX_11 hT) n_1 (hT.up 11 (tA_upd (tX_11 hT) (tA_stc (oh_col (W := 7) hroom rfl (rg_c (v := 0) (lo := 0) (hi := 0) (by decide)) (by decide)) hx1 (by decide)))) (fr_st hF (by decide) (by decide)) dX0_addRoad_20 (fun C_2 H locs e_3 hT hF hP hD hS => ?_)
  have t_4 := hT
  refine lv_aload_n hx hb dX0_addRoad_21 rfl (lv_at hl 1 rfl) ?_
  refine va_get (D := D) (ci := 0) (v := .ref (a 11)) (C := RX0) (T := TX0) (N := 8) hx hb htg ig_0 hown hK hP 1 (oh_wg (by decide) (sX_1 hT)) rfl 1 (by decide) (htg _ q_101) (fun _ h9 => h9) rfl dX0_addRoad_22 ?_
  refine lv_iload hx hb dX0_addRoad_25 (lv_at hl 0 rfl) ?_
  refine lv_iconst (v := 1) hx hb dX0_addRoad_27 (by decide) ?_
  refine lv_iadd hx hb dX0_addRoad_28 ?_
  refine lv_iload_n hx hb dX0_addRoad_29 rfl (lv_at hl 3 rfl) ?_
  have n_5 : vp_in (((ga (C 10) ((0 : Int32)).toNatClampNeg) * 7) + 1) 168 := (rg_in (rg_add (lo := 1) (hi := 162) (rg_mul (lo := 0) (hi := 161) hroom (rg_c (v := 7) (lo := 7) (hi := 7) (by decide)) (by decide)) (rg_c (v := 1) (lo := 1) (hi := 1) (by decide)) (by decide)) (by decide))
  refine th_iast (T := TyX a E) (Rl := fr [(10, 12)] [] C) hx hb hK hP hD hS 11 (by decide) (sX_11 hT) n_5 (hT.up 11 (tA_upd (tX_11 hT) (tA_stc (oh_col (W := 7) hroom rfl (rg_c (v := 1) (lo := 1) (hi := 1) (by decide)) (by decide)) hx2 (by decide)))) (fr_st hF (by decide) (by decide)) dX0_addRoad_30 (fun C_6 H locs e_7 hT hF hP hD hS => ?_)
  have t_8 := hT
  refine lv_aload_n hx hb dX0_addRoad_31 rfl (lv_at hl 1 rfl) ?_
  refine va_get (D := D) (ci := 0) (v := .ref (a 11)) (C := RX0) (T := TX0) (N := 8) hx hb htg ig_0 hown hK hP 1 (oh_wg (by decide) (sX_1 hT)) rfl 1 (by decide) (htg _ q_101) (fun _ h9 => h9) rfl dX0_addRoad_32 ?_
  refine lv_iload hx hb dX0_addRoad_35 (lv_at hl 0 rfl) ?_
  refine lv_iconst (v := 2) hx hb dX0_addRoad_37 (by decide) ?_
  refine lv_iadd hx hb dX0_addRoad_38 ?_
  refine lv_iload_n hx hb dX0_addRoad_39 rfl (lv_at hl 4 rfl) ?_
  have n_9 : vp_in (((ga (C 10) ((0 : Int32)).toNatClampNeg) * 7) + 2) 168 := (rg_in (rg_add (lo := 2) (hi := 163) (rg_mul (lo := 0) (hi := 161) hroom (rg_c (v := 7) (lo := 7) (hi := 7) (by decide)) (by decide)) (rg_c (v := 2) (lo := 2) (hi := 2) (by decide)) (by decide)) (by decide))
  refine th_iast (T := TyX a E) (Rl := fr [(10, 12)] [] C) hx hb hK hP hD hS 11 (by decide) (sX_11 hT) n_9 (hT.up 11 (tA_upd (tX_11 hT) (tA_stc (oh_col (W := 7) hroom rfl (rg_c (v := 2) (lo := 2) (hi := 2) (by decide)) (by decide)) (rg_any _) (by decide)))) (fr_st hF (by decide) (by decide)) dX0_addRoad_40 (fun C_10 H locs e_11 hT hF hP hD hS => ?_)
  have t_12 := hT
  refine lv_aload_n hx hb dX0_addRoad_41 rfl (lv_at hl 1 rfl) ?_
  refine va_get (D := D) (ci := 0) (v := .ref (a 11)) (C := RX0) (T := TX0) (N := 8) hx hb htg ig_0 hown hK hP 1 (oh_wg (by decide) (sX_1 hT)) rfl 1 (by decide) (htg _ q_101) (fun _ h9 => h9) rfl dX0_addRoad_42 ?_
  refine lv_iload hx hb dX0_addRoad_45 (lv_at hl 0 rfl) ?_
  refine lv_iconst (v := 3) hx hb dX0_addRoad_47 (by decide) ?_
  refine lv_iadd hx hb dX0_addRoad_48 ?_
  refine lv_iload hx hb dX0_addRoad_49 (lv_at hl 5 rfl) ?_
  have n_13 : vp_in (((ga (C 10) ((0 : Int32)).toNatClampNeg) * 7) + 3) 168 := (rg_in (rg_add (lo := 3) (hi := 164) (rg_mul (lo := 0) (hi := 161) hroom (rg_c (v := 7) (lo := 7) (hi := 7) (by decide)) (by decide)) (rg_c (v := 3) (lo := 3) (hi := 3) (by decide)) (by decide)) (by decide))
  refine th_iast (T := TyX a E) (Rl := fr [(10, 12)] [] C) hx hb hK hP hD hS 11 (by decide) (sX_11 hT) n_13 (hT.up 11 (tA_upd (tX_11 hT) (tA_stc (oh_col (W := 7) hroom rfl (rg_c (v := 3) (lo := 3) (hi := 3) (by decide)) (by decide)) (rg_any _) (by decide)))) (fr_st hF (by decide) (by decide)) dX0_addRoad_51 (fun C_14 H locs e_15 hT hF hP hD hS => ?_)
  have t_16 := hT
  refine lv_aload_n hx hb dX0_addRoad_52 rfl (lv_at hl 1 rfl) ?_
  refine va_get (D := D) (ci := 0) (v := .ref (a 11)) (C := RX0) (T := TX0) (N := 8) hx hb htg ig_0 hown hK hP 1 (oh_wg (by decide) (sX_1 hT)) rfl 1 (by decide) (htg _ q_101) (fun _ h9 => h9) rfl dX0_addRoad_53 ?_
  refine lv_iload hx hb dX0_addRoad_56 (lv_at hl 0 rfl) ?_
  refine lv_iconst (v := 4) hx hb dX0_addRoad_58 (by decide) ?_
  refine lv_iadd hx hb dX0_addRoad_59 ?_
  refine lv_iload hx hb dX0_addRoad_60 (lv_at hl 6 rfl) ?_
  have n_17 : vp_in (((ga (C 10) ((0 : Int32)).toNatClampNeg) * 7) + 4) 168 := (rg_in (rg_add (lo := 4) (hi := 165) (rg_mul (lo := 0) (hi := 161) hroom (rg_c (v := 7) (lo := 7) (hi := 7) (by decide)) (by decide)) (rg_c (v := 4) (lo := 4) (hi := 4) (by decide)) (by decide)) (by decide))
  refine th_iast (T := TyX a E) (Rl := fr [(10, 12)] [] C) hx hb hK hP hD hS 11 (by decide) (sX_11 hT) n_17 (hT.up 11 (tA_upd (tX_11 hT) (tA_stc (oh_col (W := 7) hroom rfl (rg_c (v := 4) (lo := 4) (hi := 4) (by decide)) (by decide)) (rg_any _) (by decide)))) (fr_st hF (by decide) (by decide)) dX0_addRoad_62 (fun C_18 H locs e_19 hT hF hP hD hS => ?_)
  have t_20 := hT
  refine lv_aload_n hx hb dX0_addRoad_63 rfl (lv_at hl 1 rfl) ?_
  refine va_get (D := D) (ci := 0) (v := .ref (a 11)) (C := RX0) (T := TX0) (N := 8) hx hb htg ig_0 hown hK hP 1 (oh_wg (by decide) (sX_1 hT)) rfl 1 (by decide) (htg _ q_101) (fun _ h9 => h9) rfl dX0_addRoad_64 ?_
  refine lv_iload hx hb dX0_addRoad_67 (lv_at hl 0 rfl) ?_
  refine lv_iconst (v := 5) hx hb dX0_addRoad_69 (by decide) ?_
  refine lv_iadd hx hb dX0_addRoad_70 ?_
  refine lv_iload hx hb dX0_addRoad_71 (lv_at hl 7 rfl) ?_
  have n_21 : vp_in (((ga (C 10) ((0 : Int32)).toNatClampNeg) * 7) + 5) 168 := (rg_in (rg_add (lo := 5) (hi := 166) (rg_mul (lo := 0) (hi := 161) hroom (rg_c (v := 7) (lo := 7) (hi := 7) (by decide)) (by decide)) (rg_c (v := 5) (lo := 5) (hi := 5) (by decide)) (by decide)) (by decide))
  refine th_iast (T := TyX a E) (Rl := fr [(10, 12)] [] C) hx hb hK hP hD hS 11 (by decide) (sX_11 hT) n_21 (hT.up 11 (tA_upd (tX_11 hT) (tA_stc (oh_col (W := 7) hroom rfl (rg_c (v := 5) (lo := 5) (hi := 5) (by decide)) (by decide)) (rg_any _) (by decide)))) (fr_st hF (by decide) (by decide)) dX0_addRoad_73 (fun C_22 H locs e_23 hT hF hP hD hS => ?_)
  have t_24 := hT
  refine lv_aload_n hx hb dX0_addRoad_74 rfl (lv_at hl 1 rfl) ?_
  refine va_get (D := D) (ci := 0) (v := .ref (a 11)) (C := RX0) (T := TX0) (N := 8) hx hb htg ig_0 hown hK hP 1 (oh_wg (by decide) (sX_1 hT)) rfl 1 (by decide) (htg _ q_101) (fun _ h9 => h9) rfl dX0_addRoad_75 ?_
  refine lv_iload hx hb dX0_addRoad_78 (lv_at hl 0 rfl) ?_
  refine lv_bipush (v := 6) hx hb dX0_addRoad_80 (by decide) ?_
  refine lv_iadd hx hb dX0_addRoad_82 ?_
  refine lv_iconst (v := 0) hx hb dX0_addRoad_83 (by decide) ?_
  have n_25 : vp_in (((ga (C 10) ((0 : Int32)).toNatClampNeg) * 7) + 6) 168 := (rg_in (rg_add (lo := 6) (hi := 167) (rg_mul (lo := 0) (hi := 161) hroom (rg_c (v := 7) (lo := 7) (hi := 7) (by decide)) (by decide)) (rg_c (v := 6) (lo := 6) (hi := 6) (by decide)) (by decide)) (by decide))
  refine th_iast (T := TyX a E) (Rl := fr [(10, 12)] [] C) hx hb hK hP hD hS 11 (by decide) (sX_11 hT) n_25 (hT.up 11 (tA_upd (tX_11 hT) (tA_stc (oh_col (W := 7) hroom rfl (rg_c (v := 6) (lo := 6) (hi := 6) (by decide)) (by decide)) (rg_c (v := 0) (lo := 0) (hi := 0) (by decide)) (by decide)))) (fr_st hF (by decide) (by decide)) dX0_addRoad_84 (fun C_26 H locs e_27 hT hF hP hD hS => ?_)
  have t_28 := hT
  refine lv_aload_n hx hb dX0_addRoad_85 rfl (lv_at hl 1 rfl) ?_
  refine va_get (D := D) (ci := 0) (v := .ref (a 10)) (C := RX0) (T := TX0) (N := 8) hx hb htg ig_0 hown hK hP 1 (oh_wg (by decide) (sX_1 hT)) rfl 0 (by decide) (htg _ q_97) (fun _ h9 => h9) rfl dX0_addRoad_86 ?_
  refine lv_iconst (v := 0) hx hb dX0_addRoad_89 (by decide) ?_
  refine lv_dup2_11 hx hb dX0_addRoad_90 rfl rfl ?_
  refine th_iald hx hb hK hP 10 (by decide) (Eq.trans (Eq.trans (th_un e_27 (by decide)) (Eq.trans (th_un e_23 (by decide)) (Eq.trans (th_un e_19 (by decide)) (Eq.trans (th_un e_15 (by decide)) (Eq.trans (th_un e_11 (by decide)) (Eq.trans (th_un e_7 (by decide)) (th_un e_3 (by decide)))))))) (sX_10 hT0)) (rg_in (rg_c (v := 0) (lo := 0) (hi := 0) (by decide)) (by decide)) dX0_addRoad_91 ?_
  refine lv_dup_x2 hx hb dX0_addRoad_92 rfl rfl rfl ?_
  refine lv_iconst (v := 1) hx hb dX0_addRoad_93 (by decide) ?_
  refine lv_iadd hx hb dX0_addRoad_94 ?_
  refine th_iast (T := TyX a E) (Rl := fr [(10, 12)] [] C) hx hb hK hP hD hS 10 (by decide) (sX_10 hT) (rg_in (rg_c (v := 0) (lo := 0) (hi := 0) (by decide)) (by decide)) (hT.up 10 (tA_upd (tX_10 hT) (tA_stc (show _ = 0 by decide) (rg_add (lo := 1) (hi := 24) hroom (rg_c (v := 1) (lo := 1) (hi := 1) (by decide)) (by decide)) (by decide)))) (fr_st hF (by decide) (by decide)) dX0_addRoad_95 (fun C_29 H locs e_30 hT hF hP hD hS => ?_)
  have t_31 := hT
  rw [hQ]
  exact W.iret (v := ga (C 10) ((0 : Int32)).toNatClampNeg) hx hb hr (fun t ht hW => ⟨⟨ga (C 10) ((0 : Int32)).toNatClampNeg, C_29, rfl, ⟨hT, hF, trivial⟩, ⟨by rw [ht]; exact hP, hD⟩⟩, hS.F ht⟩) hS.2.2 dX0_addRoad_96

set_option maxHeartbeats 4000000 in
set_option maxRecDepth 100000 in
theorem c_X0_addBridge (l : Launch) (D : va_G) (E : Nat → ClassId) (G : Nat → Nat) (sz : Nat) (a : Nat → Nat) (C : Nat → va_E) (hT : TyX a E C) (x1 : Int32) (x2 : Int32) (x3 : Int32) (x4 : Int32) (x5 : Int32) (hx1 : rg x1 0 23) (hx2 : rg x2 0 5) (hroom : rg (ga (C 10) ((1 : Int32)).toNatClampNeg) 0 15) : Met l yX0_addBridge (oh_w yX0_addBridge cX0_addBridge 8 (some .int)) ({ frames := 0, cells := 0, slots := 0, locals := 0 }) (oh_Pm D E G [.ref (a 1), .int x1, .int x2, .int x3, .int x4, .int x5] (oh_W 35 a C) sz) (va_Qi (fun r (u : Nat → va_E) => TyX a E u ∧ fr [(10, 11), (12, 13)] [] C u ∧ rg r 0 15) (oh_B D (va_A (oh_W 35 a C) sz) (fun u => oh_W 35 a u)) (va_A (oh_W 35 a C) sz)) 0 0 (va_A (oh_W 35 a C) sz) := by
  refine Met.ofW (cc := cX0_addBridge) (maxL := 8) (ret := (some .int)) (by decide) rfl ?_
  intro p e s m args below meth c s₁ B hml hv
  obtain ⟨rfl, hsz, hP, hK, hD0, hG⟩ := hv
  have hx := B.exec
  have hb := B.bytes
  have hr := B.returns
  have hts := atoms_spec (ws := (oh_w yX0_addBridge cX0_addBridge 8 (some .int))) B.pre
  have htg : ∀ w ∈ oh_t, w.before _ s = true := fun w h => hts w (List.mem_cons_of_mem _ h)
  have hown : s.vm.findClass RX0 = some m.cls := findClass_of_methodNamed B.named
  have hlocks := B.notSynchronized
  have hT0 := hT
  subst hsz
  have hD := hD0.self (sz := s.heap.size)
  generalize hAe : va_A (oh_W 35 a C) s.heap.size = A at hD hG ⊢
  have hA : ∀ q : Nat, s.heap.size ≤ q → A q := fun q h => by rw [← hAe]; exact Or.inr h
  have hS : va_S A s.heap s.heap [] := va_S.rf
  have hF : fr [(10, 11), (12, 13)] [] C C := fr_rf
  have hl := lv_entry ([.ref (a 1), .int x1, .int x2, .int x3, .int x4, .int x5]) (n := 8) (Nat.le_of_ble_eq_true rfl)
  rw [lg_entry_eq]
  generalize (lg_sl ([.ref (a 1), .int x1, .int x2, .int x3, .int x4, .int x5]) ++ List.replicate (8 - (lg_sl ([.ref (a 1), .int x1, .int x2, .int x3, .int x4, .int x5])).length) Slot.unset).toArray = ls at hl ⊢
  have hl : lv_has ls 8 [(0, .ref (a 1)), (1, .int x1), (2, .int x2), (3, .int x3), (4, .int x4), (5, .int x5)] := hl
  refine oh_genQ (fun Q hQ => ?_)
  refine lv_aload_n hx hb dX0_addBridge_0 rfl (lv_at hl 0 rfl) ?_
  refine va_get (D := D) (ci := 0) (v := .ref (a 10)) (C := RX0) (T := TX0) (N := 8) hx hb htg ig_0 hown hK hP 1 (oh_wg (by decide) (sX_1 hT)) rfl 0 (by decide) (htg _ q_97) (fun _ h9 => h9) rfl dX0_addBridge_1 ?_
  refine lv_iconst (v := 1) hx hb dX0_addBridge_4 (by decide) ?_
  refine th_iald hx hb hK hP 10 (by decide) (sX_10 hT) (rg_in (rg_c (v := 1) (lo := 1) (hi := 1) (by decide)) (by decide)) dX0_addBridge_5 ?_
  refine lv_bipush (v := 10) hx hb dX0_addBridge_6 (by decide) ?_
  refine lv_imul hx hb dX0_addBridge_8 ?_
  refine lv_istore (lv' := [(6, .int ((ga (C 10) ((1 : Int32)).toNatClampNeg) * 10)), (0, .ref (a 1)), (1, .int x1), (2, .int x2), (3, .int x3), (4, .int x4), (5, .int x5)]) hx hb dX0_addBridge_9 hl (by decide) rfl (fun ls hl => ?_)
  refine lv_aload_n hx hb dX0_addBridge_11 rfl (lv_at hl 1 rfl) ?_
  refine va_get (D := D) (ci := 0) (v := .ref (a 12)) (C := RX0) (T := TX0) (N := 8) hx hb htg ig_0 hown hK hP 1 (oh_wg (by decide) (sX_1 hT)) rfl 2 (by decide) (htg _ q_103) (fun _ h9 => h9) rfl dX0_addBridge_12 ?_
  refine lv_iload hx hb dX0_addBridge_15 (lv_at hl 0 rfl) ?_
  refine lv_iconst (v := 0) hx hb dX0_addBridge_17 (by decide) ?_
  refine lv_iadd hx hb dX0_addBridge_18 ?_
  refine lv_iload_n hx hb dX0_addBridge_19 rfl (lv_at hl 2 rfl) ?_
  have n_1 : vp_in (((ga (C 10) ((1 : Int32)).toNatClampNeg) * 10) + 0) 160 := (rg_in (rg_add (lo := 0) (hi := 150) (rg_mul (lo := 0) (hi := 150) hroom (rg_c (v := 10) (lo := 10) (hi := 10) (by decide)) (by decide)) (rg_c (v := 0) (lo := 0) (hi := 0) (by decide)) (by decide)) (by decide))
  refine th_iast (T := TyX a E) (Rl := fr [(10, 11), (12, 13)] [] C) hx hb hK hP hD hS 12 (by decide) (sX_12 hT) n_1 (hT.up 12 (tA_upd (tX_12 hT) (tA_stc (oh_col (W := 10) hroom rfl (rg_c (v := 0) (lo := 0) (hi := 0) (by decide)) (by decide)) hx1 (by decide)))) (fr_st hF (by decide) (by decide)) dX0_addBridge_20 (fun C_2 H locs e_3 hT hF hP hD hS => ?_)
  have t_4 := hT
  refine lv_aload_n hx hb dX0_addBridge_21 rfl (lv_at hl 1 rfl) ?_
  refine va_get (D := D) (ci := 0) (v := .ref (a 12)) (C := RX0) (T := TX0) (N := 8) hx hb htg ig_0 hown hK hP 1 (oh_wg (by decide) (sX_1 hT)) rfl 2 (by decide) (htg _ q_103) (fun _ h9 => h9) rfl dX0_addBridge_22 ?_
  refine lv_iload hx hb dX0_addBridge_25 (lv_at hl 0 rfl) ?_
  refine lv_iconst (v := 1) hx hb dX0_addBridge_27 (by decide) ?_
  refine lv_iadd hx hb dX0_addBridge_28 ?_
  refine lv_iload_n hx hb dX0_addBridge_29 rfl (lv_at hl 3 rfl) ?_
  have n_5 : vp_in (((ga (C 10) ((1 : Int32)).toNatClampNeg) * 10) + 1) 160 := (rg_in (rg_add (lo := 1) (hi := 151) (rg_mul (lo := 0) (hi := 150) hroom (rg_c (v := 10) (lo := 10) (hi := 10) (by decide)) (by decide)) (rg_c (v := 1) (lo := 1) (hi := 1) (by decide)) (by decide)) (by decide))
  refine th_iast (T := TyX a E) (Rl := fr [(10, 11), (12, 13)] [] C) hx hb hK hP hD hS 12 (by decide) (sX_12 hT) n_5 (hT.up 12 (tA_upd (tX_12 hT) (tA_stc (oh_col (W := 10) hroom rfl (rg_c (v := 1) (lo := 1) (hi := 1) (by decide)) (by decide)) hx2 (by decide)))) (fr_st hF (by decide) (by decide)) dX0_addBridge_30 (fun C_6 H locs e_7 hT hF hP hD hS => ?_)
  have t_8 := hT
  refine lv_aload_n hx hb dX0_addBridge_31 rfl (lv_at hl 1 rfl) ?_
  refine va_get (D := D) (ci := 0) (v := .ref (a 12)) (C := RX0) (T := TX0) (N := 8) hx hb htg ig_0 hown hK hP 1 (oh_wg (by decide) (sX_1 hT)) rfl 2 (by decide) (htg _ q_103) (fun _ h9 => h9) rfl dX0_addBridge_32 ?_
  refine lv_iload hx hb dX0_addBridge_35 (lv_at hl 0 rfl) ?_
  refine lv_iconst (v := 2) hx hb dX0_addBridge_37 (by decide) ?_
  refine lv_iadd hx hb dX0_addBridge_38 ?_
  refine lv_iload_n hx hb dX0_addBridge_39 rfl (lv_at hl 4 rfl) ?_
  have n_9 : vp_in (((ga (C 10) ((1 : Int32)).toNatClampNeg) * 10) + 2) 160 := (rg_in (rg_add (lo := 2) (hi := 152) (rg_mul (lo := 0) (hi := 150) hroom (rg_c (v := 10) (lo := 10) (hi := 10) (by decide)) (by decide)) (rg_c (v := 2) (lo := 2) (hi := 2) (by decide)) (by decide)) (by decide))
  refine th_iast (T := TyX a E) (Rl := fr [(10, 11), (12, 13)] [] C) hx hb hK hP hD hS 12 (by decide) (sX_12 hT) n_9 (hT.up 12 (tA_upd (tX_12 hT) (tA_stc (oh_col (W := 10) hroom rfl (rg_c (v := 2) (lo := 2) (hi := 2) (by decide)) (by decide)) (rg_any _) (by decide)))) (fr_st hF (by decide) (by decide)) dX0_addBridge_40 (fun C_10 H locs e_11 hT hF hP hD hS => ?_)
  have t_12 := hT
  refine lv_aload_n hx hb dX0_addBridge_41 rfl (lv_at hl 1 rfl) ?_
  refine va_get (D := D) (ci := 0) (v := .ref (a 12)) (C := RX0) (T := TX0) (N := 8) hx hb htg ig_0 hown hK hP 1 (oh_wg (by decide) (sX_1 hT)) rfl 2 (by decide) (htg _ q_103) (fun _ h9 => h9) rfl dX0_addBridge_42 ?_
  refine lv_iload hx hb dX0_addBridge_45 (lv_at hl 0 rfl) ?_
  refine lv_iconst (v := 3) hx hb dX0_addBridge_47 (by decide) ?_
  refine lv_iadd hx hb dX0_addBridge_48 ?_
  refine lv_iload hx hb dX0_addBridge_49 (lv_at hl 5 rfl) ?_
  have n_13 : vp_in (((ga (C 10) ((1 : Int32)).toNatClampNeg) * 10) + 3) 160 := (rg_in (rg_add (lo := 3) (hi := 153) (rg_mul (lo := 0) (hi := 150) hroom (rg_c (v := 10) (lo := 10) (hi := 10) (by decide)) (by decide)) (rg_c (v := 3) (lo := 3) (hi := 3) (by decide)) (by decide)) (by decide))
  refine th_iast (T := TyX a E) (Rl := fr [(10, 11), (12, 13)] [] C) hx hb hK hP hD hS 12 (by decide) (sX_12 hT) n_13 (hT.up 12 (tA_upd (tX_12 hT) (tA_stc (oh_col (W := 10) hroom rfl (rg_c (v := 3) (lo := 3) (hi := 3) (by decide)) (by decide)) (rg_any _) (by decide)))) (fr_st hF (by decide) (by decide)) dX0_addBridge_51 (fun C_14 H locs e_15 hT hF hP hD hS => ?_)
  have t_16 := hT
  refine lv_aload_n hx hb dX0_addBridge_52 rfl (lv_at hl 1 rfl) ?_
  refine va_get (D := D) (ci := 0) (v := .ref (a 12)) (C := RX0) (T := TX0) (N := 8) hx hb htg ig_0 hown hK hP 1 (oh_wg (by decide) (sX_1 hT)) rfl 2 (by decide) (htg _ q_103) (fun _ h9 => h9) rfl dX0_addBridge_53 ?_
  refine lv_iload hx hb dX0_addBridge_56 (lv_at hl 0 rfl) ?_
  refine lv_iconst (v := 4) hx hb dX0_addBridge_58 (by decide) ?_
  refine lv_iadd hx hb dX0_addBridge_59 ?_
  refine lv_iload hx hb dX0_addBridge_60 (lv_at hl 6 rfl) ?_
  have n_17 : vp_in (((ga (C 10) ((1 : Int32)).toNatClampNeg) * 10) + 4) 160 := (rg_in (rg_add (lo := 4) (hi := 154) (rg_mul (lo := 0) (hi := 150) hroom (rg_c (v := 10) (lo := 10) (hi := 10) (by decide)) (by decide)) (rg_c (v := 4) (lo := 4) (hi := 4) (by decide)) (by decide)) (by decide))
  refine th_iast (T := TyX a E) (Rl := fr [(10, 11), (12, 13)] [] C) hx hb hK hP hD hS 12 (by decide) (sX_12 hT) n_17 (hT.up 12 (tA_upd (tX_12 hT) (tA_stc (oh_col (W := 10) hroom rfl (rg_c (v := 4) (lo := 4) (hi := 4) (by decide)) (by decide)) (rg_any _) (by decide)))) (fr_st hF (by decide) (by decide)) dX0_addBridge_62 (fun C_18 H locs e_19 hT hF hP hD hS => ?_)
  have t_20 := hT
  refine lv_iconst (v := 5) hx hb dX0_addBridge_63 (by decide) ?_
  refine lv_istore (lv' := [(7, .int 5), (6, .int ((ga (C 10) ((1 : Int32)).toNatClampNeg) * 10)), (0, .ref (a 1)), (1, .int x1), (2, .int x2), (3, .int x3), (4, .int x4), (5, .int x5)]) hx hb dX0_addBridge_64 hl (by decide) rfl (fun ls hl => ?_)
  have L_66 : ∀ (d : Nat) (K66 : Nat → va_E) (z66_7 : Int32) (H : Heap) (locs : List Loc) (ls : Array Slot), (10 - z66_7.toInt).toNat = d → rg z66_7 5 10 → TyX a E K66 → fr [(10, 11), (12, 13)] [] C K66 → fr [(12, 13)] [] C_18 K66 → va_P D vwCl (oh_W 35 a K66) H → va_D A (oh_W 35 a K66) → va_S A s.heap H locs → lv_has ls 8 [(7, .int z66_7), (6, .int ((ga (C 10) ((1 : Int32)).toNatClampNeg) * 10)), (0, .ref (a 1)), (1, .int x1), (2, .int x2), (3, .int x3), (4, .int x4), (5, .int x5)] → W p l e ({ frames := 0, cells := 0, slots := 0, locals := 0 }) s m (([.ref (a 1), .int x1, .int x2, .int x3, .int x4, .int x5] : List Value).toArray) below meth c H locs 0 0 Q (F0 m 66 ls []) := by
    intro d
    induction d using Nat.strongRecOn with
    | ind d ih_66 =>
    intro K66 z66_7 H locs ls hd_66 hz66_7 hT hF hLF_66 hP hD hS hl
    have t_21 := hT
    refine lv_iload hx hb dX0_addBridge_66 (lv_at hl 0 rfl) ?_
    refine lv_bipush (v := 10) hx hb dX0_addBridge_68 (by decide) ?_
    refine lv_icmp_ge (tgt := 90) hx hb dX0_addBridge_70 (by decide) (fun (c_22 : (10 : Int32) ≤ z66_7) => ?_) (fun (c_22 : ¬ ((10 : Int32) ≤ z66_7)) => ?_)
    · refine lv_aload_n hx hb dX0_addBridge_90 rfl (lv_at hl 2 rfl) ?_
      refine va_get (D := D) (ci := 0) (v := .ref (a 10)) (C := RX0) (T := TX0) (N := 8) hx hb htg ig_0 hown hK hP 1 (oh_wg (by decide) (sX_1 hT)) rfl 0 (by decide) (htg _ q_97) (fun _ h9 => h9) rfl dX0_addBridge_91 ?_
      refine lv_iconst (v := 1) hx hb dX0_addBridge_94 (by decide) ?_
      refine lv_dup2_11 hx hb dX0_addBridge_95 rfl rfl ?_
      refine th_iald hx hb hK hP 10 (by decide) (Eq.trans (Eq.trans (hLF_66.1 10 rfl (by decide)) (Eq.trans (th_un e_19 (by decide)) (Eq.trans (th_un e_15 (by decide)) (Eq.trans (th_un e_11 (by decide)) (Eq.trans (th_un e_7 (by decide)) (th_un e_3 (by decide))))))) (sX_10 hT0)) (rg_in (rg_c (v := 1) (lo := 1) (hi := 1) (by decide)) (by decide)) dX0_addBridge_96 ?_
      refine lv_dup_x2 hx hb dX0_addBridge_97 rfl rfl rfl ?_
      refine lv_iconst (v := 1) hx hb dX0_addBridge_98 (by decide) ?_
      refine lv_iadd hx hb dX0_addBridge_99 ?_
      refine th_iast (T := TyX a E) (Rl := fr [(10, 11), (12, 13)] [] C) hx hb hK hP hD hS 10 (by decide) (sX_10 hT) (rg_in (rg_c (v := 1) (lo := 1) (hi := 1) (by decide)) (by decide)) (hT.up 10 (tA_upd (tX_10 hT) (tA_stc (show _ = 1 by decide) (rg_add (lo := 1) (hi := 16) hroom (rg_c (v := 1) (lo := 1) (hi := 1) (by decide)) (by decide)) (by decide)))) (fr_st hF (by decide) (by decide)) dX0_addBridge_100 (fun C_23 H locs e_24 hT hF hP hD hS => ?_)
      have t_25 := hT
      rw [hQ]
      exact W.iret (v := ga (C 10) ((1 : Int32)).toNatClampNeg) hx hb hr (fun t ht hW => ⟨⟨ga (C 10) ((1 : Int32)).toNatClampNeg, C_23, rfl, ⟨hT, hF, (rg_w hroom (by decide))⟩, ⟨by rw [ht]; exact hP, hD⟩⟩, hS.F ht⟩) hS.2.2 dX0_addBridge_101
    · refine lv_aload_n hx hb dX0_addBridge_73 rfl (lv_at hl 2 rfl) ?_
      refine va_get (D := D) (ci := 0) (v := .ref (a 12)) (C := RX0) (T := TX0) (N := 8) hx hb htg ig_0 hown hK hP 1 (oh_wg (by decide) (sX_1 hT)) rfl 2 (by decide) (htg _ q_103) (fun _ h9 => h9) rfl dX0_addBridge_74 ?_
      refine lv_iload hx hb dX0_addBridge_77 (lv_at hl 1 rfl) ?_
      refine lv_iload hx hb dX0_addBridge_79 (lv_at hl 0 rfl) ?_
      refine lv_iadd hx hb dX0_addBridge_81 ?_
      refine lv_iconst (v := 0) hx hb dX0_addBridge_82 (by decide) ?_
      have n_26 : vp_in (((ga (C 10) ((1 : Int32)).toNatClampNeg) * 10) + z66_7) 160 := (rg_in (rg_add (lo := 5) (hi := 159) (rg_mul (lo := 0) (hi := 150) hroom (rg_c (v := 10) (lo := 10) (hi := 10) (by decide)) (by decide)) (rn_ltu (u' := 9) (Int32.not_le.mp c_22) hz66_7 (rg_c (v := 10) (lo := 10) (hi := 10) (by decide)) (by decide)) (by decide)) (by decide))
      refine th_iast (T := TyX a E) (Rl := fr [(10, 11), (12, 13)] [] C) hx hb hK hP hD hS 12 (by decide) (sX_12 hT) n_26 (hT.up 12 (tA_upd (tX_12 hT) (tA_sth (oh_col (W := 10) hroom rfl (rn_ltu (u' := 9) (Int32.not_le.mp c_22) hz66_7 (rg_c (v := 10) (lo := 10) (hi := 10) (by decide)) (by decide)) (by decide)) (rn_ltu (u' := 9) (Int32.not_le.mp c_22) hz66_7 (rg_c (v := 10) (lo := 10) (hi := 10) (by decide)) (by decide)) (by decide)))) (fr_st hF (by decide) (by decide)) dX0_addBridge_83 (fun C_27 H locs e_28 hT hF hP hD hS => ?_)
      have t_29 := hT
      refine lv_iinc (v := z66_7 + 1) (lv' := [(7, .int (z66_7 + 1)), (6, .int ((ga (C 10) ((1 : Int32)).toNatClampNeg) * 10)), (0, .ref (a 1)), (1, .int x1), (2, .int x2), (3, .int x3), (4, .int x4), (5, .int x5)]) hx hb dX0_addBridge_84 hl (k := 0) rfl (by rfl) (by decide) rfl (fun ls hl => ?_)
      refine lv_goto (tgt := 66) hx hb dX0_addBridge_87 (by decide) ?_
      exact ih_66 _ (hd_66 ▸ mu_up 10 (rn_ltu (u' := 9) (Int32.not_le.mp c_22) hz66_7 (rg_c (v := 10) (lo := 10) (hi := 10) (by decide)) (by decide)) (by decide)) C_27 (z66_7 + 1) _ _ ls rfl (rg_w (rg_add (lo := 6) (hi := 10) (rn_ltu (u' := 9) (Int32.not_le.mp c_22) hz66_7 (rg_c (v := 10) (lo := 10) (hi := 10) (by decide)) (by decide)) (rg_c (v := 1) (lo := 1) (hi := 1) (by decide)) (by decide)) (by decide)) hT hF (fr_ste hLF_66 e_28 (by decide) (by decide)) hP hD hS (lv_sub hl [0, 1, 2, 3, 4, 5, 6, 7] rfl)
  exact L_66 _ C_18 5 _ _ ls rfl (rg_w (rg_c (v := 5) (lo := 5) (hi := 5) (by decide)) (by decide)) hT hF fr_rf hP hD hS (lv_sub hl [0, 1, 2, 3, 4, 5, 6, 7] rfl)

set_option maxHeartbeats 4000000 in
set_option maxRecDepth 100000 in
theorem c_X0_putBridgeColumn (l : Launch) (D : va_G) (E : Nat → ClassId) (G : Nat → Nat) (sz : Nat) (a : Nat → Nat) (C : Nat → va_E) (hT : TyX a E C) (x1 : Int32) (x2 : Int32) (x3 : Int32) (hx1 : rg x1 0 15) (hx2 : rg x2 2 9) : Met l yX0_putBridgeColumn (oh_w yX0_putBridgeColumn cX0_putBridgeColumn 4 none) ({ frames := 0, cells := 0, slots := 0, locals := 0 }) (oh_Pm D E G [.ref (a 1), .int x1, .int x2, .int x3] (oh_W 35 a C) sz) (va_Qv (fun (u : Nat → va_E) => TyX a E u ∧ fr [(12, 13)] [] C u ∧ True) (oh_B D (va_A (oh_W 35 a C) sz) (fun u => oh_W 35 a u)) (va_A (oh_W 35 a C) sz)) 0 0 (va_A (oh_W 35 a C) sz) := by
  refine Met.ofW (cc := cX0_putBridgeColumn) (maxL := 4) (ret := none) (by decide) rfl ?_
  intro p e s m args below meth c s₁ B hml hv
  obtain ⟨rfl, hsz, hP, hK, hD0, hG⟩ := hv
  have hx := B.exec
  have hb := B.bytes
  have hr := B.returns
  have hts := atoms_spec (ws := (oh_w yX0_putBridgeColumn cX0_putBridgeColumn 4 none)) B.pre
  have htg : ∀ w ∈ oh_t, w.before _ s = true := fun w h => hts w (List.mem_cons_of_mem _ h)
  have hown : s.vm.findClass RX0 = some m.cls := findClass_of_methodNamed B.named
  have hlocks := B.notSynchronized
  have hT0 := hT
  subst hsz
  have hD := hD0.self (sz := s.heap.size)
  generalize hAe : va_A (oh_W 35 a C) s.heap.size = A at hD hG ⊢
  have hA : ∀ q : Nat, s.heap.size ≤ q → A q := fun q h => by rw [← hAe]; exact Or.inr h
  have hS : va_S A s.heap s.heap [] := va_S.rf
  have hF : fr [(12, 13)] [] C C := fr_rf
  have hl := lv_entry ([.ref (a 1), .int x1, .int x2, .int x3]) (n := 4) (Nat.le_of_ble_eq_true rfl)
  rw [lg_entry_eq]
  generalize (lg_sl ([.ref (a 1), .int x1, .int x2, .int x3]) ++ List.replicate (4 - (lg_sl ([.ref (a 1), .int x1, .int x2, .int x3])).length) Slot.unset).toArray = ls at hl ⊢
  have hl : lv_has ls 4 [(0, .ref (a 1)), (1, .int x1), (2, .int x2), (3, .int x3)] := hl
  refine oh_genQ (fun Q hQ => ?_)
  refine lv_aload_n hx hb dX0_putBridgeColumn_0 rfl (lv_at hl 0 rfl) ?_
  refine va_get (D := D) (ci := 0) (v := .ref (a 12)) (C := RX0) (T := TX0) (N := 8) hx hb htg ig_0 hown hK hP 1 (oh_wg (by decide) (sX_1 hT)) rfl 2 (by decide) (htg _ q_103) (fun _ h9 => h9) rfl dX0_putBridgeColumn_1 ?_
  refine lv_iload_n hx hb dX0_putBridgeColumn_4 rfl (lv_at hl 1 rfl) ?_
  refine lv_bipush (v := 10) hx hb dX0_putBridgeColumn_5 (by decide) ?_
  refine lv_imul hx hb dX0_putBridgeColumn_7 ?_
  refine lv_iload_n hx hb dX0_putBridgeColumn_8 rfl (lv_at hl 2 rfl) ?_
  refine lv_iadd hx hb dX0_putBridgeColumn_9 ?_
  refine lv_iload_n hx hb dX0_putBridgeColumn_10 rfl (lv_at hl 3 rfl) ?_
  have n_1 : vp_in ((x1 * 10) + x2) 160 := (rg_in (rg_add (lo := 2) (hi := 159) (rg_mul (lo := 0) (hi := 150) hx1 (rg_c (v := 10) (lo := 10) (hi := 10) (by decide)) (by decide)) hx2 (by decide)) (by decide))
  refine th_iast (T := TyX a E) (Rl := fr [(12, 13)] [] C) hx hb hK hP hD hS 12 (by decide) (sX_12 hT) n_1 (hT.up 12 (tA_upd (tX_12 hT) (tA_sth (oh_col (W := 10) hx1 rfl hx2 (by decide)) hx2 (by decide)))) (fr_st hF (by decide) (by decide)) dX0_putBridgeColumn_11 (fun C_2 H locs e_3 hT hF hP hD hS => ?_)
  have t_4 := hT
  rw [hQ]
  exact W.vret hx hb hr (fun t ht hW => ⟨⟨C_2, rfl, ⟨hT, hF, trivial⟩, ⟨by rw [ht]; exact hP, hD⟩⟩, hS.F ht⟩) hS.2.2 dX0_putBridgeColumn_12

set_option maxHeartbeats 4000000 in
set_option maxRecDepth 100000 in
theorem c_X0_putProp (l : Launch) (D : va_G) (E : Nat → ClassId) (G : Nat → Nat) (sz : Nat) (a : Nat → Nat) (C : Nat → va_E) (hT : TyX a E C) (x1 : Int32) (x2 : Int32) (x3 : Int32) (hx1 : rg x1 0 15) : Met l yX0_putProp (oh_w yX0_putProp cX0_putProp 4 none) ({ frames := 1, cells := 0, slots := 0, locals := 23 }) (oh_Pm D E G [.ref (a 1), .int x1, .int x2, .int x3] (oh_W 35 a C) sz) (va_Qv (fun (u : Nat → va_E) => TyX a E u ∧ fr [(12, 13)] [] C u ∧ True) (oh_B D (va_A (oh_W 35 a C) sz) (fun u => oh_W 35 a u)) (va_A (oh_W 35 a C) sz)) 0 0 (va_A (oh_W 35 a C) sz) := by
  refine Met.ofW (cc := cX0_putProp) (maxL := 4) (ret := none) (by decide) rfl ?_
  intro p e s m args below meth c s₁ B hml hv
  obtain ⟨rfl, hsz, hP, hK, hD0, hG⟩ := hv
  have hx := B.exec
  have hb := B.bytes
  have hr := B.returns
  have hts := atoms_spec (ws := (oh_w yX0_putProp cX0_putProp 4 none)) B.pre
  have htg : ∀ w ∈ oh_t, w.before _ s = true := fun w h => hts w (List.mem_cons_of_mem _ h)
  have hown : s.vm.findClass RX0 = some m.cls := findClass_of_methodNamed B.named
  have hlocks := B.notSynchronized
  have hT0 := hT
  subst hsz
  have hD := hD0.self (sz := s.heap.size)
  generalize hAe : va_A (oh_W 35 a C) s.heap.size = A at hD hG ⊢
  have hA : ∀ q : Nat, s.heap.size ≤ q → A q := fun q h => by rw [← hAe]; exact Or.inr h
  have hS : va_S A s.heap s.heap [] := va_S.rf
  have hF : fr [(12, 13)] [] C C := fr_rf
  have hl := lv_entry ([.ref (a 1), .int x1, .int x2, .int x3]) (n := 4) (Nat.le_of_ble_eq_true rfl)
  rw [lg_entry_eq]
  generalize (lg_sl ([.ref (a 1), .int x1, .int x2, .int x3]) ++ List.replicate (4 - (lg_sl ([.ref (a 1), .int x1, .int x2, .int x3])).length) Slot.unset).toArray = ls at hl ⊢
  have hl : lv_has ls 4 [(0, .ref (a 1)), (1, .int x1), (2, .int x2), (3, .int x3)] := hl
  refine oh_genQ (fun Q hQ => ?_)
  refine lv_aload_n hx hb dX0_putProp_0 rfl (lv_at hl 0 rfl) ?_
  refine lv_iload_n hx hb dX0_putProp_1 rfl (lv_at hl 1 rfl) ?_
  refine lv_iconst (v := 5) hx hb dX0_putProp_2 (by decide) ?_
  refine lv_iload_n hx hb dX0_putProp_3 rfl (lv_at hl 2 rfl) ?_
  refine tm_Vv (As := [.int x1, .int 5, .int x2]) (rest := []) ⟨hx, hb, hml, hown, htg⟩ (c_X0_putBridgeColumn l D E G _ a C hT x1 (5 : Int32) x2 (rg_w hx1 (by decide)) (rg_w (rg_c (v := 5) (lo := 5) (hi := 5) (by decide)) (by decide))) (cwV 3 htg (oh_gV q_444 q_445 q_446 q_67 q_447) rfl rfl rfl pdVX0_putBridgeColumn ⟨Nat.le_of_ble_eq_true rfl, Nat.le_of_ble_eq_true rfl⟩) hK hP hD hG hS hA (va_recv hK hP (ci := 0) (q0 := 1) rfl (oh_wg (by decide) (sX_1 hT))) rfl hl.1 rfl (Nat.le_of_ble_eq_true rfl) dX0_putProp_4 ⟨Nat.le_of_ble_eq_true rfl, Nat.le_of_ble_eq_true rfl⟩ (fun C_2 H locs hq_3 hP hD hS => ?_)
  obtain ⟨hT, f_4, hq_3⟩ := hq_3
  have hF := fr_tr hF f_4 (by decide) (by decide)
  refine W.widen (k := 0) (n := 0) (Nat.le_refl _) (Nat.le_refl _) ?_
  have t_5 := hT
  refine lv_aload_n hx hb dX0_putProp_7 rfl (lv_at hl 0 rfl) ?_
  refine lv_iload_n hx hb dX0_putProp_8 rfl (lv_at hl 1 rfl) ?_
  refine lv_bipush (v := 6) hx hb dX0_putProp_9 (by decide) ?_
  refine lv_iload_n hx hb dX0_putProp_11 rfl (lv_at hl 3 rfl) ?_
  refine tm_Vv (As := [.int x1, .int 6, .int x3]) (rest := []) ⟨hx, hb, hml, hown, htg⟩ (c_X0_putBridgeColumn l D E G _ a C_2 hT x1 (6 : Int32) x3 (rg_w hx1 (by decide)) (rg_w (rg_c (v := 6) (lo := 6) (hi := 6) (by decide)) (by decide))) (cwV 3 htg (oh_gV q_444 q_445 q_446 q_67 q_447) rfl rfl rfl pdVX0_putBridgeColumn ⟨Nat.le_of_ble_eq_true rfl, Nat.le_of_ble_eq_true rfl⟩) hK hP hD hG hS hA (va_recv hK hP (ci := 0) (q0 := 1) rfl (oh_wg (by decide) (sX_1 hT))) rfl hl.1 rfl (Nat.le_of_ble_eq_true rfl) dX0_putProp_12 ⟨Nat.le_of_ble_eq_true rfl, Nat.le_of_ble_eq_true rfl⟩ (fun C_7 H locs hq_8 hP hD hS => ?_)
  obtain ⟨hT, f_9, hq_8⟩ := hq_8
  have hF := fr_tr hF f_9 (by decide) (by decide)
  refine W.widen (k := 0) (n := 0) (Nat.le_refl _) (Nat.le_refl _) ?_
  have t_10 := hT
  rw [hQ]
  exact W.vret hx hb hr (fun t ht hW => ⟨⟨C_7, rfl, ⟨hT, hF, trivial⟩, ⟨by rw [ht]; exact hP, hD⟩⟩, hS.F ht⟩) hS.2.2 dX0_putProp_15

set_option maxHeartbeats 4000000 in
set_option maxRecDepth 100000 in
theorem c_X0_addWaggon (l : Launch) (D : va_G) (E : Nat → ClassId) (G : Nat → Nat) (sz : Nat) (a : Nat → Nat) (C : Nat → va_E) (hT : TyX a E C) (x1 : Int32) (x2 : Int32) (x3 : Int32) (hroom : rg (ga (C 10) ((2 : Int32)).toNatClampNeg) 0 4) : Met l yX0_addWaggon (oh_w yX0_addWaggon cX0_addWaggon 5 (some .int)) ({ frames := 0, cells := 0, slots := 0, locals := 0 }) (oh_Pm D E G [.ref (a 1), .int x1, .int x2, .int x3] (oh_W 35 a C) sz) (va_Qi (fun r (u : Nat → va_E) => TyX a E u ∧ fr [(10, 11), (13, 14)] [] C u ∧ True) (oh_B D (va_A (oh_W 35 a C) sz) (fun u => oh_W 35 a u)) (va_A (oh_W 35 a C) sz)) 0 0 (va_A (oh_W 35 a C) sz) := by
  refine Met.ofW (cc := cX0_addWaggon) (maxL := 5) (ret := (some .int)) (by decide) rfl ?_
  intro p e s m args below meth c s₁ B hml hv
  obtain ⟨rfl, hsz, hP, hK, hD0, hG⟩ := hv
  have hx := B.exec
  have hb := B.bytes
  have hr := B.returns
  have hts := atoms_spec (ws := (oh_w yX0_addWaggon cX0_addWaggon 5 (some .int))) B.pre
  have htg : ∀ w ∈ oh_t, w.before _ s = true := fun w h => hts w (List.mem_cons_of_mem _ h)
  have hown : s.vm.findClass RX0 = some m.cls := findClass_of_methodNamed B.named
  have hlocks := B.notSynchronized
  have hT0 := hT
  subst hsz
  have hD := hD0.self (sz := s.heap.size)
  generalize hAe : va_A (oh_W 35 a C) s.heap.size = A at hD hG ⊢
  have hA : ∀ q : Nat, s.heap.size ≤ q → A q := fun q h => by rw [← hAe]; exact Or.inr h
  have hS : va_S A s.heap s.heap [] := va_S.rf
  have hF : fr [(10, 11), (13, 14)] [] C C := fr_rf
  have hl := lv_entry ([.ref (a 1), .int x1, .int x2, .int x3]) (n := 5) (Nat.le_of_ble_eq_true rfl)
  rw [lg_entry_eq]
  generalize (lg_sl ([.ref (a 1), .int x1, .int x2, .int x3]) ++ List.replicate (5 - (lg_sl ([.ref (a 1), .int x1, .int x2, .int x3])).length) Slot.unset).toArray = ls at hl ⊢
  have hl : lv_has ls 5 [(0, .ref (a 1)), (1, .int x1), (2, .int x2), (3, .int x3)] := hl
  refine oh_genQ (fun Q hQ => ?_)
  refine lv_aload_n hx hb dX0_addWaggon_0 rfl (lv_at hl 0 rfl) ?_
  refine va_get (D := D) (ci := 0) (v := .ref (a 10)) (C := RX0) (T := TX0) (N := 8) hx hb htg ig_0 hown hK hP 1 (oh_wg (by decide) (sX_1 hT)) rfl 0 (by decide) (htg _ q_97) (fun _ h9 => h9) rfl dX0_addWaggon_1 ?_
  refine lv_iconst (v := 2) hx hb dX0_addWaggon_4 (by decide) ?_
  refine th_iald hx hb hK hP 10 (by decide) (sX_10 hT) (rg_in (rg_c (v := 2) (lo := 2) (hi := 2) (by decide)) (by decide)) dX0_addWaggon_5 ?_
  refine lv_iconst (v := 3) hx hb dX0_addWaggon_6 (by decide) ?_
  refine lv_imul hx hb dX0_addWaggon_7 ?_
  refine lv_istore (lv' := [(4, .int ((ga (C 10) ((2 : Int32)).toNatClampNeg) * 3)), (0, .ref (a 1)), (1, .int x1), (2, .int x2), (3, .int x3)]) hx hb dX0_addWaggon_8 hl (by decide) rfl (fun ls hl => ?_)
  refine lv_aload_n hx hb dX0_addWaggon_10 rfl (lv_at hl 1 rfl) ?_
  refine va_get (D := D) (ci := 0) (v := .ref (a 13)) (C := RX0) (T := TX0) (N := 8) hx hb htg ig_0 hown hK hP 1 (oh_wg (by decide) (sX_1 hT)) rfl 3 (by decide) (htg _ q_104) (fun _ h9 => h9) rfl dX0_addWaggon_11 ?_
  refine lv_iload hx hb dX0_addWaggon_14 (lv_at hl 0 rfl) ?_
  refine lv_iconst (v := 0) hx hb dX0_addWaggon_16 (by decide) ?_
  refine lv_iadd hx hb dX0_addWaggon_17 ?_
  refine lv_iload_n hx hb dX0_addWaggon_18 rfl (lv_at hl 2 rfl) ?_
  have n_1 : vp_in (((ga (C 10) ((2 : Int32)).toNatClampNeg) * 3) + 0) 15 := (rg_in (rg_add (lo := 0) (hi := 12) (rg_mul (lo := 0) (hi := 12) hroom (rg_c (v := 3) (lo := 3) (hi := 3) (by decide)) (by decide)) (rg_c (v := 0) (lo := 0) (hi := 0) (by decide)) (by decide)) (by decide))
  refine th_iast (T := TyX a E) (Rl := fr [(10, 11), (13, 14)] [] C) hx hb hK hP hD hS 13 (by decide) (sX_13 hT) n_1 (hT.up 13 (tA_upd (tX_13 hT) tA_any)) (fr_st hF (by decide) (by decide)) dX0_addWaggon_19 (fun C_2 H locs e_3 hT hF hP hD hS => ?_)
  have t_4 := hT
  refine lv_aload_n hx hb dX0_addWaggon_20 rfl (lv_at hl 1 rfl) ?_
  refine va_get (D := D) (ci := 0) (v := .ref (a 13)) (C := RX0) (T := TX0) (N := 8) hx hb htg ig_0 hown hK hP 1 (oh_wg (by decide) (sX_1 hT)) rfl 3 (by decide) (htg _ q_104) (fun _ h9 => h9) rfl dX0_addWaggon_21 ?_
  refine lv_iload hx hb dX0_addWaggon_24 (lv_at hl 0 rfl) ?_
  refine lv_iconst (v := 1) hx hb dX0_addWaggon_26 (by decide) ?_
  refine lv_iadd hx hb dX0_addWaggon_27 ?_
  refine lv_iload_n hx hb dX0_addWaggon_28 rfl (lv_at hl 3 rfl) ?_
  have n_5 : vp_in (((ga (C 10) ((2 : Int32)).toNatClampNeg) * 3) + 1) 15 := (rg_in (rg_add (lo := 1) (hi := 13) (rg_mul (lo := 0) (hi := 12) hroom (rg_c (v := 3) (lo := 3) (hi := 3) (by decide)) (by decide)) (rg_c (v := 1) (lo := 1) (hi := 1) (by decide)) (by decide)) (by decide))
  refine th_iast (T := TyX a E) (Rl := fr [(10, 11), (13, 14)] [] C) hx hb hK hP hD hS 13 (by decide) (sX_13 hT) n_5 (hT.up 13 (tA_upd (tX_13 hT) tA_any)) (fr_st hF (by decide) (by decide)) dX0_addWaggon_29 (fun C_6 H locs e_7 hT hF hP hD hS => ?_)
  have t_8 := hT
  refine lv_aload_n hx hb dX0_addWaggon_30 rfl (lv_at hl 1 rfl) ?_
  refine va_get (D := D) (ci := 0) (v := .ref (a 13)) (C := RX0) (T := TX0) (N := 8) hx hb htg ig_0 hown hK hP 1 (oh_wg (by decide) (sX_1 hT)) rfl 3 (by decide) (htg _ q_104) (fun _ h9 => h9) rfl dX0_addWaggon_31 ?_
  refine lv_iload hx hb dX0_addWaggon_34 (lv_at hl 0 rfl) ?_
  refine lv_iconst (v := 2) hx hb dX0_addWaggon_36 (by decide) ?_
  refine lv_iadd hx hb dX0_addWaggon_37 ?_
  refine lv_iload_n hx hb dX0_addWaggon_38 rfl (lv_at hl 4 rfl) ?_
  have n_9 : vp_in (((ga (C 10) ((2 : Int32)).toNatClampNeg) * 3) + 2) 15 := (rg_in (rg_add (lo := 2) (hi := 14) (rg_mul (lo := 0) (hi := 12) hroom (rg_c (v := 3) (lo := 3) (hi := 3) (by decide)) (by decide)) (rg_c (v := 2) (lo := 2) (hi := 2) (by decide)) (by decide)) (by decide))
  refine th_iast (T := TyX a E) (Rl := fr [(10, 11), (13, 14)] [] C) hx hb hK hP hD hS 13 (by decide) (sX_13 hT) n_9 (hT.up 13 (tA_upd (tX_13 hT) tA_any)) (fr_st hF (by decide) (by decide)) dX0_addWaggon_39 (fun C_10 H locs e_11 hT hF hP hD hS => ?_)
  have t_12 := hT
  refine lv_aload_n hx hb dX0_addWaggon_40 rfl (lv_at hl 1 rfl) ?_
  refine va_get (D := D) (ci := 0) (v := .ref (a 10)) (C := RX0) (T := TX0) (N := 8) hx hb htg ig_0 hown hK hP 1 (oh_wg (by decide) (sX_1 hT)) rfl 0 (by decide) (htg _ q_97) (fun _ h9 => h9) rfl dX0_addWaggon_41 ?_
  refine lv_iconst (v := 2) hx hb dX0_addWaggon_44 (by decide) ?_
  refine lv_dup2_11 hx hb dX0_addWaggon_45 rfl rfl ?_
  refine th_iald hx hb hK hP 10 (by decide) (Eq.trans (Eq.trans (th_un e_11 (by decide)) (Eq.trans (th_un e_7 (by decide)) (th_un e_3 (by decide)))) (sX_10 hT0)) (rg_in (rg_c (v := 2) (lo := 2) (hi := 2) (by decide)) (by decide)) dX0_addWaggon_46 ?_
  refine lv_dup_x2 hx hb dX0_addWaggon_47 rfl rfl rfl ?_
  refine lv_iconst (v := 1) hx hb dX0_addWaggon_48 (by decide) ?_
  refine lv_iadd hx hb dX0_addWaggon_49 ?_
  refine th_iast (T := TyX a E) (Rl := fr [(10, 11), (13, 14)] [] C) hx hb hK hP hD hS 10 (by decide) (sX_10 hT) (rg_in (rg_c (v := 2) (lo := 2) (hi := 2) (by decide)) (by decide)) (hT.up 10 (tA_upd (tX_10 hT) (tA_stc (show _ = 2 by decide) (rg_add (lo := 1) (hi := 5) hroom (rg_c (v := 1) (lo := 1) (hi := 1) (by decide)) (by decide)) (by decide)))) (fr_st hF (by decide) (by decide)) dX0_addWaggon_50 (fun C_13 H locs e_14 hT hF hP hD hS => ?_)
  have t_15 := hT
  rw [hQ]
  exact W.iret (v := ga (C 10) ((2 : Int32)).toNatClampNeg) hx hb hr (fun t ht hW => ⟨⟨ga (C 10) ((2 : Int32)).toNatClampNeg, C_13, rfl, ⟨hT, hF, trivial⟩, ⟨by rw [ht]; exact hP, hD⟩⟩, hS.F ht⟩) hS.2.2 dX0_addWaggon_51

set_option maxHeartbeats 4000000 in
set_option maxRecDepth 100000 in
theorem c_X0_addPart (l : Launch) (D : va_G) (E : Nat → ClassId) (G : Nat → Nat) (sz : Nat) (a : Nat → Nat) (C : Nat → va_E) (hT : TyX a E C) (x1 : Int32) (x2 : Int32) (hroom : rg (ga (C 10) ((3 : Int32)).toNatClampNeg) 0 4) : Met l yX0_addPart (oh_w yX0_addPart cX0_addPart 4 (some .int)) ({ frames := 0, cells := 0, slots := 0, locals := 0 }) (oh_Pm D E G [.ref (a 1), .int x1, .int x2] (oh_W 35 a C) sz) (va_Qi (fun r (u : Nat → va_E) => TyX a E u ∧ fr [(10, 11), (14, 15)] [] C u ∧ True) (oh_B D (va_A (oh_W 35 a C) sz) (fun u => oh_W 35 a u)) (va_A (oh_W 35 a C) sz)) 0 0 (va_A (oh_W 35 a C) sz) := by
  refine Met.ofW (cc := cX0_addPart) (maxL := 4) (ret := (some .int)) (by decide) rfl ?_
  intro p e s m args below meth c s₁ B hml hv
  obtain ⟨rfl, hsz, hP, hK, hD0, hG⟩ := hv
  have hx := B.exec
  have hb := B.bytes
  have hr := B.returns
  have hts := atoms_spec (ws := (oh_w yX0_addPart cX0_addPart 4 (some .int))) B.pre
  have htg : ∀ w ∈ oh_t, w.before _ s = true := fun w h => hts w (List.mem_cons_of_mem _ h)
  have hown : s.vm.findClass RX0 = some m.cls := findClass_of_methodNamed B.named
  have hlocks := B.notSynchronized
  have hT0 := hT
  subst hsz
  have hD := hD0.self (sz := s.heap.size)
  generalize hAe : va_A (oh_W 35 a C) s.heap.size = A at hD hG ⊢
  have hA : ∀ q : Nat, s.heap.size ≤ q → A q := fun q h => by rw [← hAe]; exact Or.inr h
  have hS : va_S A s.heap s.heap [] := va_S.rf
  have hF : fr [(10, 11), (14, 15)] [] C C := fr_rf
  have hl := lv_entry ([.ref (a 1), .int x1, .int x2]) (n := 4) (Nat.le_of_ble_eq_true rfl)
  rw [lg_entry_eq]
  generalize (lg_sl ([.ref (a 1), .int x1, .int x2]) ++ List.replicate (4 - (lg_sl ([.ref (a 1), .int x1, .int x2])).length) Slot.unset).toArray = ls at hl ⊢
  have hl : lv_has ls 4 [(0, .ref (a 1)), (1, .int x1), (2, .int x2)] := hl
  refine oh_genQ (fun Q hQ => ?_)
  refine lv_aload_n hx hb dX0_addPart_0 rfl (lv_at hl 0 rfl) ?_
  refine va_get (D := D) (ci := 0) (v := .ref (a 10)) (C := RX0) (T := TX0) (N := 8) hx hb htg ig_0 hown hK hP 1 (oh_wg (by decide) (sX_1 hT)) rfl 0 (by decide) (htg _ q_97) (fun _ h9 => h9) rfl dX0_addPart_1 ?_
  refine lv_iconst (v := 3) hx hb dX0_addPart_4 (by decide) ?_
  refine th_iald hx hb hK hP 10 (by decide) (sX_10 hT) (rg_in (rg_c (v := 3) (lo := 3) (hi := 3) (by decide)) (by decide)) dX0_addPart_5 ?_
  refine lv_iconst (v := 2) hx hb dX0_addPart_6 (by decide) ?_
  refine lv_imul hx hb dX0_addPart_7 ?_
  refine lv_istore_n (lv' := [(3, .int ((ga (C 10) ((3 : Int32)).toNatClampNeg) * 2)), (0, .ref (a 1)), (1, .int x1), (2, .int x2)]) hx hb dX0_addPart_8 rfl hl (by decide) rfl (fun ls hl => ?_)
  refine lv_aload_n hx hb dX0_addPart_9 rfl (lv_at hl 1 rfl) ?_
  refine va_get (D := D) (ci := 0) (v := .ref (a 14)) (C := RX0) (T := TX0) (N := 8) hx hb htg ig_0 hown hK hP 1 (oh_wg (by decide) (sX_1 hT)) rfl 4 (by decide) (htg _ q_105) (fun _ h9 => h9) rfl dX0_addPart_10 ?_
  refine lv_iload_n hx hb dX0_addPart_13 rfl (lv_at hl 0 rfl) ?_
  refine lv_iconst (v := 0) hx hb dX0_addPart_14 (by decide) ?_
  refine lv_iadd hx hb dX0_addPart_15 ?_
  refine lv_iload_n hx hb dX0_addPart_16 rfl (lv_at hl 2 rfl) ?_
  have n_1 : vp_in (((ga (C 10) ((3 : Int32)).toNatClampNeg) * 2) + 0) 10 := (rg_in (rg_add (lo := 0) (hi := 8) (rg_mul (lo := 0) (hi := 8) hroom (rg_c (v := 2) (lo := 2) (hi := 2) (by decide)) (by decide)) (rg_c (v := 0) (lo := 0) (hi := 0) (by decide)) (by decide)) (by decide))
  refine th_iast (T := TyX a E) (Rl := fr [(10, 11), (14, 15)] [] C) hx hb hK hP hD hS 14 (by decide) (sX_14 hT) n_1 (hT.up 14 (tA_upd (tX_14 hT) tA_any)) (fr_st hF (by decide) (by decide)) dX0_addPart_17 (fun C_2 H locs e_3 hT hF hP hD hS => ?_)
  have t_4 := hT
  refine lv_aload_n hx hb dX0_addPart_18 rfl (lv_at hl 1 rfl) ?_
  refine va_get (D := D) (ci := 0) (v := .ref (a 14)) (C := RX0) (T := TX0) (N := 8) hx hb htg ig_0 hown hK hP 1 (oh_wg (by decide) (sX_1 hT)) rfl 4 (by decide) (htg _ q_105) (fun _ h9 => h9) rfl dX0_addPart_19 ?_
  refine lv_iload_n hx hb dX0_addPart_22 rfl (lv_at hl 0 rfl) ?_
  refine lv_iconst (v := 1) hx hb dX0_addPart_23 (by decide) ?_
  refine lv_iadd hx hb dX0_addPart_24 ?_
  refine lv_iload_n hx hb dX0_addPart_25 rfl (lv_at hl 3 rfl) ?_
  have n_5 : vp_in (((ga (C 10) ((3 : Int32)).toNatClampNeg) * 2) + 1) 10 := (rg_in (rg_add (lo := 1) (hi := 9) (rg_mul (lo := 0) (hi := 8) hroom (rg_c (v := 2) (lo := 2) (hi := 2) (by decide)) (by decide)) (rg_c (v := 1) (lo := 1) (hi := 1) (by decide)) (by decide)) (by decide))
  refine th_iast (T := TyX a E) (Rl := fr [(10, 11), (14, 15)] [] C) hx hb hK hP hD hS 14 (by decide) (sX_14 hT) n_5 (hT.up 14 (tA_upd (tX_14 hT) tA_any)) (fr_st hF (by decide) (by decide)) dX0_addPart_26 (fun C_6 H locs e_7 hT hF hP hD hS => ?_)
  have t_8 := hT
  refine lv_aload_n hx hb dX0_addPart_27 rfl (lv_at hl 1 rfl) ?_
  refine va_get (D := D) (ci := 0) (v := .ref (a 10)) (C := RX0) (T := TX0) (N := 8) hx hb htg ig_0 hown hK hP 1 (oh_wg (by decide) (sX_1 hT)) rfl 0 (by decide) (htg _ q_97) (fun _ h9 => h9) rfl dX0_addPart_28 ?_
  refine lv_iconst (v := 3) hx hb dX0_addPart_31 (by decide) ?_
  refine lv_dup2_11 hx hb dX0_addPart_32 rfl rfl ?_
  refine th_iald hx hb hK hP 10 (by decide) (Eq.trans (Eq.trans (th_un e_7 (by decide)) (th_un e_3 (by decide))) (sX_10 hT0)) (rg_in (rg_c (v := 3) (lo := 3) (hi := 3) (by decide)) (by decide)) dX0_addPart_33 ?_
  refine lv_dup_x2 hx hb dX0_addPart_34 rfl rfl rfl ?_
  refine lv_iconst (v := 1) hx hb dX0_addPart_35 (by decide) ?_
  refine lv_iadd hx hb dX0_addPart_36 ?_
  refine th_iast (T := TyX a E) (Rl := fr [(10, 11), (14, 15)] [] C) hx hb hK hP hD hS 10 (by decide) (sX_10 hT) (rg_in (rg_c (v := 3) (lo := 3) (hi := 3) (by decide)) (by decide)) (hT.up 10 (tA_upd (tX_10 hT) (tA_stc (show _ = 3 by decide) (rg_add (lo := 1) (hi := 5) hroom (rg_c (v := 1) (lo := 1) (hi := 1) (by decide)) (by decide)) (by decide)))) (fr_st hF (by decide) (by decide)) dX0_addPart_37 (fun C_9 H locs e_10 hT hF hP hD hS => ?_)
  have t_11 := hT
  rw [hQ]
  exact W.iret (v := ga (C 10) ((3 : Int32)).toNatClampNeg) hx hb hr (fun t ht hW => ⟨⟨ga (C 10) ((3 : Int32)).toNatClampNeg, C_9, rfl, ⟨hT, hF, trivial⟩, ⟨by rw [ht]; exact hP, hD⟩⟩, hS.F ht⟩) hS.2.2 dX0_addPart_38

set_option maxHeartbeats 4000000 in
set_option maxRecDepth 100000 in
theorem c_X0_countBridges (l : Launch) (D : va_G) (E : Nat → ClassId) (G : Nat → Nat) (a : Nat → Nat) (C : Nat → va_E) (hT : TyX a E C) (x1 : Int32) (hx1 : rg x1 0 9) : Met l yX0_countBridges (oh_w yX0_countBridges cX0_countBridges 4 (some .int)) ({ frames := 1, cells := 0, slots := 0, locals := 22 }) (oh_Pp D E G [.ref (a 1), .int x1] (oh_W 35 a C)) (vp_Si (fun r => True)) 0 0 (fun _ => False) := by
  refine Met.ofW (cc := cX0_countBridges) (maxL := 4) (ret := (some .int)) (by decide) rfl ?_
  intro p e s m args below meth c s₁ B hml hv
  obtain ⟨rfl, hP, hK, hG⟩ := hv
  have hx := B.exec
  have hb := B.bytes
  have hr := B.returns
  have hts := atoms_spec (ws := (oh_w yX0_countBridges cX0_countBridges 4 (some .int))) B.pre
  have htg : ∀ w ∈ oh_t, w.before _ s = true := fun w h => hts w (List.mem_cons_of_mem _ h)
  have hown : s.vm.findClass RX0 = some m.cls := findClass_of_methodNamed B.named
  have hlocks := B.notSynchronized
  have hT0 := hT
  have hS : va_S (fun _ => False) s.heap s.heap [] := va_S.rf
  have hl := lv_entry ([.ref (a 1), .int x1]) (n := 4) (Nat.le_of_ble_eq_true rfl)
  rw [lg_entry_eq]
  generalize (lg_sl ([.ref (a 1), .int x1]) ++ List.replicate (4 - (lg_sl ([.ref (a 1), .int x1])).length) Slot.unset).toArray = ls at hl ⊢
  have hl : lv_has ls 4 [(0, .ref (a 1)), (1, .int x1)] := hl
  refine oh_genQ (fun Q hQ => ?_)
  refine lv_iconst (v := 0) hx hb dX0_countBridges_0 (by decide) ?_
  refine lv_istore_n (lv' := [(2, .int 0), (0, .ref (a 1)), (1, .int x1)]) hx hb dX0_countBridges_1 rfl hl (by decide) rfl (fun ls hl => ?_)
  refine lv_iconst (v := 0) hx hb dX0_countBridges_2 (by decide) ?_
  refine lv_istore_n (lv' := [(3, .int 0), (2, .int 0), (0, .ref (a 1)), (1, .int x1)]) hx hb dX0_countBridges_3 rfl hl (by decide) rfl (fun ls hl => ?_)
  have L_4 : ∀ (d : Nat) (z4_3 : Int32) (z4_2 : Int32) (ls : Array Slot), (16 - z4_3.toInt).toNat = d → rg z4_3 0 16 → lv_has ls 4 [(3, .int z4_3), (2, .int z4_2), (0, .ref (a 1)), (1, .int x1)] → W p l e ({ frames := 1, cells := 0, slots := 0, locals := 22 }) s m (([.ref (a 1), .int x1] : List Value).toArray) below meth c s.heap [] 0 0 Q (F0 m 4 ls []) := by
    intro d
    induction d using Nat.strongRecOn with
    | ind d ih_4 =>
    intro z4_3 z4_2 ls hd_4 hz4_3 hl
    refine lv_iload_n hx hb dX0_countBridges_4 rfl (lv_at hl 0 rfl) ?_
    refine lv_aload_n hx hb dX0_countBridges_5 rfl (lv_at hl 2 rfl) ?_
    refine va_get (D := D) (ci := 0) (v := .ref (a 10)) (C := RX0) (T := TX0) (N := 8) hx hb htg ig_0 hown hK hP 1 (oh_wg (by decide) (sX_1 hT)) rfl 0 (by decide) (htg _ q_97) (fun _ h9 => h9) rfl dX0_countBridges_6 ?_
    refine lv_iconst (v := 1) hx hb dX0_countBridges_9 (by decide) ?_
    refine th_iald hx hb hK hP 10 (by decide) (sX_10 hT) (rg_in (rg_c (v := 1) (lo := 1) (hi := 1) (by decide)) (by decide)) dX0_countBridges_10 ?_
    refine lv_icmp_ge (tgt := 29) hx hb dX0_countBridges_11 (by decide) (fun (c_1 : (ga (C 10) ((1 : Int32)).toNatClampNeg) ≤ z4_3) => ?_) (fun (c_1 : ¬ ((ga (C 10) ((1 : Int32)).toNatClampNeg) ≤ z4_3)) => ?_)
    · refine lv_iload_n hx hb dX0_countBridges_29 rfl (lv_at hl 1 rfl) ?_
      rw [hQ]
      exact W.iret (v := z4_2) hx hb hr (fun t ht hW => ⟨z4_2, rfl, trivial, ht⟩) (fun q h => by cases h) dX0_countBridges_30
    · refine lv_iload_n hx hb dX0_countBridges_14 rfl (lv_at hl 1 rfl) ?_
      refine lv_aload_n hx hb dX0_countBridges_15 rfl (lv_at hl 2 rfl) ?_
      refine lv_iload_n hx hb dX0_countBridges_16 rfl (lv_at hl 0 rfl) ?_
      refine lv_iload_n hx hb dX0_countBridges_17 rfl (lv_at hl 3 rfl) ?_
      refine tq_V (As := [.int z4_3, .int x1]) (rest := [.int z4_2]) (ws := (oh_W 35 a C)) ⟨hx, hb, hml, hown, htg⟩ (c_X0_ofBridge l D E G a C hT z4_3 x1 (rg_w (rn_ltu (u' := 15) (Int32.not_le.mp c_1) hz4_3 (tA_rdc (lo := 0) (hi := 16) (tX_10 hT0) (rg_in (rg_c (v := 1) (lo := 1) (hi := 1) (by decide)) (by decide)) (show _ = 1 by decide) (by decide)) (by decide)) (by decide)) (rg_w hx1 (by decide))) (cwV 2 htg (oh_gV q_384 q_385 q_386 q_67 q_387) rfl rfl rfl pdVX0_ofBridge ⟨Nat.le_of_ble_eq_true rfl, Nat.le_of_ble_eq_true rfl⟩) hK hP hG hS (va_recv hK hP (ci := 0) (q0 := 1) rfl (oh_wg (by decide) (sX_1 hT))) rfl hl.1 rfl (Nat.le_of_ble_eq_true rfl) dX0_countBridges_18 ⟨Nat.le_of_ble_eq_true rfl, Nat.le_of_ble_eq_true rfl⟩ (fun r_2 hq_3 => ?_)
      subst hq_3
      refine lv_iadd hx hb dX0_countBridges_21 ?_
      refine lv_istore_n (lv' := [(2, .int (z4_2 + (ga (C 12) ((z4_3 * 10) + x1).toNatClampNeg))), (3, .int z4_3), (0, .ref (a 1)), (1, .int x1)]) hx hb dX0_countBridges_22 rfl hl (by decide) rfl (fun ls hl => ?_)
      refine lv_iinc (v := z4_3 + 1) (lv' := [(3, .int (z4_3 + 1)), (2, .int (z4_2 + (ga (C 12) ((z4_3 * 10) + x1).toNatClampNeg))), (0, .ref (a 1)), (1, .int x1)]) hx hb dX0_countBridges_23 hl (k := 1) rfl (by rfl) (by decide) rfl (fun ls hl => ?_)
      refine lv_goto (tgt := 4) hx hb dX0_countBridges_26 (by decide) ?_
      exact ih_4 _ (hd_4 ▸ mu_up 16 (rn_ltu (u' := 15) (Int32.not_le.mp c_1) hz4_3 (tA_rdc (lo := 0) (hi := 16) (tX_10 hT0) (rg_in (rg_c (v := 1) (lo := 1) (hi := 1) (by decide)) (by decide)) (show _ = 1 by decide) (by decide)) (by decide)) (by decide)) (z4_3 + 1) (z4_2 + (ga (C 12) ((z4_3 * 10) + x1).toNatClampNeg)) ls rfl (rg_w (rg_add (lo := 1) (hi := 16) (rn_ltu (u' := 15) (Int32.not_le.mp c_1) hz4_3 (tA_rdc (lo := 0) (hi := 16) (tX_10 hT0) (rg_in (rg_c (v := 1) (lo := 1) (hi := 1) (by decide)) (by decide)) (show _ = 1 by decide) (by decide)) (by decide)) (rg_c (v := 1) (lo := 1) (hi := 1) (by decide)) (by decide)) (by decide)) (lv_sub hl [0, 1, 2, 3] rfl)
  exact L_4 _ 0 0 ls rfl (rg_w (rg_c (v := 0) (lo := 0) (hi := 0) (by decide)) (by decide)) (lv_sub hl [0, 1, 2, 3] rfl)

set_option maxHeartbeats 4000000 in
set_option maxRecDepth 100000 in
theorem c_X0_waggonLength (l : Launch) (D : va_G) (E : Nat → ClassId) (G : Nat → Nat) (a : Nat → Nat) (C : Nat → va_E) (hT : TyX a E C) (x1 : Int32) (hx1 : rg x1 0 4) : Met l yX0_waggonLength (oh_w yX0_waggonLength cX0_waggonLength 2 (some .int)) ({ frames := 1, cells := 0, slots := 0, locals := 22 }) (oh_Pp D E G [.ref (a 1), .int x1] (oh_W 35 a C)) (vp_Si (fun r => True)) 0 0 (fun _ => False) := by
  refine Met.ofW (cc := cX0_waggonLength) (maxL := 2) (ret := (some .int)) (by decide) rfl ?_
  intro p e s m args below meth c s₁ B hml hv
  obtain ⟨rfl, hP, hK, hG⟩ := hv
  have hx := B.exec
  have hb := B.bytes
  have hr := B.returns
  have hts := atoms_spec (ws := (oh_w yX0_waggonLength cX0_waggonLength 2 (some .int))) B.pre
  have htg : ∀ w ∈ oh_t, w.before _ s = true := fun w h => hts w (List.mem_cons_of_mem _ h)
  have hown : s.vm.findClass RX0 = some m.cls := findClass_of_methodNamed B.named
  have hlocks := B.notSynchronized
  have hT0 := hT
  have hS : va_S (fun _ => False) s.heap s.heap [] := va_S.rf
  have hl := lv_entry ([.ref (a 1), .int x1]) (n := 2) (Nat.le_of_ble_eq_true rfl)
  rw [lg_entry_eq]
  generalize (lg_sl ([.ref (a 1), .int x1]) ++ List.replicate (2 - (lg_sl ([.ref (a 1), .int x1])).length) Slot.unset).toArray = ls at hl ⊢
  have hl : lv_has ls 2 [(0, .ref (a 1)), (1, .int x1)] := hl
  refine oh_genQ (fun Q hQ => ?_)
  refine lv_aload_n hx hb dX0_waggonLength_0 rfl (lv_at hl 0 rfl) ?_
  refine lv_iload_n hx hb dX0_waggonLength_1 rfl (lv_at hl 1 rfl) ?_
  refine lv_iconst (v := 1) hx hb dX0_waggonLength_2 (by decide) ?_
  refine tq_V (As := [.int x1, .int 1]) (rest := []) (ws := (oh_W 35 a C)) ⟨hx, hb, hml, hown, htg⟩ (c_X0_ofWaggon l D E G a C hT x1 (1 : Int32) (rg_w hx1 (by decide)) (rg_w (rg_c (v := 1) (lo := 1) (hi := 1) (by decide)) (by decide))) (cwV 2 htg (oh_gV q_687 q_688 q_689 q_67 q_690) rfl rfl rfl pdVX0_ofWaggon ⟨Nat.le_of_ble_eq_true rfl, Nat.le_of_ble_eq_true rfl⟩) hK hP hG hS (va_recv hK hP (ci := 0) (q0 := 1) rfl (oh_wg (by decide) (sX_1 hT))) rfl hl.1 rfl (Nat.le_of_ble_eq_true rfl) dX0_waggonLength_3 ⟨Nat.le_of_ble_eq_true rfl, Nat.le_of_ble_eq_true rfl⟩ (fun r_1 hq_2 => ?_)
  subst hq_2
  refine lv_aload_n hx hb dX0_waggonLength_6 rfl (lv_at hl 0 rfl) ?_
  refine lv_iload_n hx hb dX0_waggonLength_7 rfl (lv_at hl 1 rfl) ?_
  refine lv_iconst (v := 0) hx hb dX0_waggonLength_8 (by decide) ?_
  refine tq_V (As := [.int x1, .int 0]) (rest := [.int (ga (C 13) ((x1 * 3) + 1).toNatClampNeg)]) (ws := (oh_W 35 a C)) ⟨hx, hb, hml, hown, htg⟩ (c_X0_ofWaggon l D E G a C hT x1 (0 : Int32) (rg_w hx1 (by decide)) (rg_w (rg_c (v := 0) (lo := 0) (hi := 0) (by decide)) (by decide))) (cwV 2 htg (oh_gV q_687 q_688 q_689 q_67 q_690) rfl rfl rfl pdVX0_ofWaggon ⟨Nat.le_of_ble_eq_true rfl, Nat.le_of_ble_eq_true rfl⟩) hK hP hG hS (va_recv hK hP (ci := 0) (q0 := 1) rfl (oh_wg (by decide) (sX_1 hT))) rfl hl.1 rfl (Nat.le_of_ble_eq_true rfl) dX0_waggonLength_9 ⟨Nat.le_of_ble_eq_true rfl, Nat.le_of_ble_eq_true rfl⟩ (fun r_3 hq_4 => ?_)
  subst hq_4
  refine lv_iconst (v := 1) hx hb dX0_waggonLength_12 (by decide) ?_
  refine lv_isub hx hb dX0_waggonLength_13 ?_
  refine lv_imul hx hb dX0_waggonLength_14 ?_
  refine lv_iconst (v := 4) hx hb dX0_waggonLength_15 (by decide) ?_
  refine lv_iadd hx hb dX0_waggonLength_16 ?_
  rw [hQ]
  exact W.iret (v := ((ga (C 13) ((x1 * 3) + 1).toNatClampNeg) * ((ga (C 13) ((x1 * 3) + 0).toNatClampNeg) - 1)) + 4) hx hb hr (fun t ht hW => ⟨((ga (C 13) ((x1 * 3) + 1).toNatClampNeg) * ((ga (C 13) ((x1 * 3) + 0).toNatClampNeg) - 1)) + 4, rfl, trivial, ht⟩) (fun q h => by cases h) dX0_waggonLength_17

set_option maxHeartbeats 4000000 in
set_option maxRecDepth 100000 in
theorem c_X0_sumOfParts (l : Launch) (D : va_G) (E : Nat → ClassId) (G : Nat → Nat) (a : Nat → Nat) (C : Nat → va_E) (hT : TyX a E C) (x1 : Int32) (x2 : Int32) (hx2 : rg x2 0 1) : Met l yX0_sumOfParts (oh_w yX0_sumOfParts cX0_sumOfParts 5 (some .int)) ({ frames := 0, cells := 0, slots := 0, locals := 0 }) (oh_Pp D E G [.ref (a 1), .int x1, .int x2] (oh_W 35 a C)) (vp_Si (fun r => True)) 0 0 (fun _ => False) := by
  refine Met.ofW (cc := cX0_sumOfParts) (maxL := 5) (ret := (some .int)) (by decide) rfl ?_
  intro p e s m args below meth c s₁ B hml hv
  obtain ⟨rfl, hP, hK, hG⟩ := hv
  have hx := B.exec
  have hb := B.bytes
  have hr := B.returns
  have hts := atoms_spec (ws := (oh_w yX0_sumOfParts cX0_sumOfParts 5 (some .int))) B.pre
  have htg : ∀ w ∈ oh_t, w.before _ s = true := fun w h => hts w (List.mem_cons_of_mem _ h)
  have hown : s.vm.findClass RX0 = some m.cls := findClass_of_methodNamed B.named
  have hlocks := B.notSynchronized
  have hT0 := hT
  have hS : va_S (fun _ => False) s.heap s.heap [] := va_S.rf
  have hl := lv_entry ([.ref (a 1), .int x1, .int x2]) (n := 5) (Nat.le_of_ble_eq_true rfl)
  rw [lg_entry_eq]
  generalize (lg_sl ([.ref (a 1), .int x1, .int x2]) ++ List.replicate (5 - (lg_sl ([.ref (a 1), .int x1, .int x2])).length) Slot.unset).toArray = ls at hl ⊢
  have hl : lv_has ls 5 [(0, .ref (a 1)), (1, .int x1), (2, .int x2)] := hl
  refine oh_genQ (fun Q hQ => ?_)
  refine lv_iconst (v := 0) hx hb dX0_sumOfParts_0 (by decide) ?_
  refine lv_istore_n (lv' := [(3, .int 0), (0, .ref (a 1)), (1, .int x1), (2, .int x2)]) hx hb dX0_sumOfParts_1 rfl hl (by decide) rfl (fun ls hl => ?_)
  refine lv_iconst (v := 0) hx hb dX0_sumOfParts_2 (by decide) ?_
  refine lv_istore (lv' := [(4, .int 0), (3, .int 0), (0, .ref (a 1)), (1, .int x1), (2, .int x2)]) hx hb dX0_sumOfParts_3 hl (by decide) rfl (fun ls hl => ?_)
  have L_5 : ∀ (d : Nat) (z5_4 : Int32) (z5_3 : Int32) (ls : Array Slot), (5 - z5_4.toInt).toNat = d → rg z5_4 0 5 → lv_has ls 5 [(4, .int z5_4), (3, .int z5_3), (0, .ref (a 1)), (1, .int x1), (2, .int x2)] → W p l e ({ frames := 0, cells := 0, slots := 0, locals := 0 }) s m (([.ref (a 1), .int x1, .int x2] : List Value).toArray) below meth c s.heap [] 0 0 Q (F0 m 5 ls []) := by
    intro d
    induction d using Nat.strongRecOn with
    | ind d ih_5 =>
    intro z5_4 z5_3 ls hd_5 hz5_4 hl
    refine lv_iload hx hb dX0_sumOfParts_5 (lv_at hl 0 rfl) ?_
    refine lv_aload_n hx hb dX0_sumOfParts_7 rfl (lv_at hl 2 rfl) ?_
    refine va_get (D := D) (ci := 0) (v := .ref (a 10)) (C := RX0) (T := TX0) (N := 8) hx hb htg ig_0 hown hK hP 1 (oh_wg (by decide) (sX_1 hT)) rfl 0 (by decide) (htg _ q_97) (fun _ h9 => h9) rfl dX0_sumOfParts_8 ?_
    refine lv_iconst (v := 3) hx hb dX0_sumOfParts_11 (by decide) ?_
    refine th_iald hx hb hK hP 10 (by decide) (sX_10 hT) (rg_in (rg_c (v := 3) (lo := 3) (hi := 3) (by decide)) (by decide)) dX0_sumOfParts_12 ?_
    refine lv_icmp_ge (tgt := 46) hx hb dX0_sumOfParts_13 (by decide) (fun (c_1 : (ga (C 10) ((3 : Int32)).toNatClampNeg) ≤ z5_4) => ?_) (fun (c_1 : ¬ ((ga (C 10) ((3 : Int32)).toNatClampNeg) ≤ z5_4)) => ?_)
    · refine lv_iload_n hx hb dX0_sumOfParts_46 rfl (lv_at hl 1 rfl) ?_
      rw [hQ]
      exact W.iret (v := z5_3) hx hb hr (fun t ht hW => ⟨z5_3, rfl, trivial, ht⟩) (fun q h => by cases h) dX0_sumOfParts_47
    · refine lv_iload_n hx hb dX0_sumOfParts_16 rfl (lv_at hl 3 rfl) ?_
      refine lv_iload hx hb dX0_sumOfParts_17 (lv_at hl 0 rfl) ?_
      refine lv_ishr hx hb dX0_sumOfParts_19 ?_
      refine lv_iconst (v := 1) hx hb dX0_sumOfParts_20 (by decide) ?_
      refine lv_iand hx hb dX0_sumOfParts_21 ?_
      refine lv_iconst (v := 1) hx hb dX0_sumOfParts_22 (by decide) ?_
      refine lv_icmp_ne (tgt := 40) hx hb dX0_sumOfParts_23 (by decide) (fun (c_2 : ¬ (((x1 >>> (z5_4 &&& 31)) &&& 1) = 1)) => ?_) (fun (c_2 : ((x1 >>> (z5_4 &&& 31)) &&& 1) = 1) => ?_)
      · refine lv_iinc (v := z5_4 + 1) (lv' := [(4, .int (z5_4 + 1)), (3, .int z5_3), (0, .ref (a 1)), (1, .int x1), (2, .int x2)]) hx hb dX0_sumOfParts_40 hl (k := 0) rfl (by rfl) (by decide) rfl (fun ls hl => ?_)
        refine lv_goto (tgt := 5) hx hb dX0_sumOfParts_43 (by decide) ?_
        exact ih_5 _ (hd_5 ▸ mu_up 5 (rn_ltu (u' := 4) (Int32.not_le.mp c_1) hz5_4 (tA_rdc (lo := 0) (hi := 5) (tX_10 hT0) (rg_in (rg_c (v := 3) (lo := 3) (hi := 3) (by decide)) (by decide)) (show _ = 3 by decide) (by decide)) (by decide)) (by decide)) (z5_4 + 1) z5_3 ls rfl (rg_w (rg_add (lo := 1) (hi := 5) (rn_ltu (u' := 4) (Int32.not_le.mp c_1) hz5_4 (tA_rdc (lo := 0) (hi := 5) (tX_10 hT0) (rg_in (rg_c (v := 3) (lo := 3) (hi := 3) (by decide)) (by decide)) (show _ = 3 by decide) (by decide)) (by decide)) (rg_c (v := 1) (lo := 1) (hi := 1) (by decide)) (by decide)) (by decide)) (lv_sub hl [0, 1, 2, 3, 4] rfl)
      · refine lv_iload_n hx hb dX0_sumOfParts_26 rfl (lv_at hl 1 rfl) ?_
        refine lv_aload_n hx hb dX0_sumOfParts_27 rfl (lv_at hl 2 rfl) ?_
        refine va_get (D := D) (ci := 0) (v := .ref (a 14)) (C := RX0) (T := TX0) (N := 8) hx hb htg ig_0 hown hK hP 1 (oh_wg (by decide) (sX_1 hT)) rfl 4 (by decide) (htg _ q_105) (fun _ h9 => h9) rfl dX0_sumOfParts_28 ?_
        refine lv_iload hx hb dX0_sumOfParts_31 (lv_at hl 0 rfl) ?_
        refine lv_iconst (v := 2) hx hb dX0_sumOfParts_33 (by decide) ?_
        refine lv_imul hx hb dX0_sumOfParts_34 ?_
        refine lv_iload_n hx hb dX0_sumOfParts_35 rfl (lv_at hl 4 rfl) ?_
        refine lv_iadd hx hb dX0_sumOfParts_36 ?_
        have n_3 : vp_in ((z5_4 * 2) + x2) 10 := (rg_in (rg_add (lo := 0) (hi := 9) (rg_mul (lo := 0) (hi := 8) (rn_ltu (u' := 4) (Int32.not_le.mp c_1) hz5_4 (tA_rdc (lo := 0) (hi := 5) (tX_10 hT0) (rg_in (rg_c (v := 3) (lo := 3) (hi := 3) (by decide)) (by decide)) (show _ = 3 by decide) (by decide)) (by decide)) (rg_c (v := 2) (lo := 2) (hi := 2) (by decide)) (by decide)) hx2 (by decide)) (by decide))
        refine th_iald hx hb hK hP 14 (by decide) (sX_14 hT) n_3 dX0_sumOfParts_37 ?_
        refine lv_iadd hx hb dX0_sumOfParts_38 ?_
        refine lv_istore_n (lv' := [(3, .int (z5_3 + (ga (C 14) ((z5_4 * 2) + x2).toNatClampNeg))), (4, .int z5_4), (0, .ref (a 1)), (1, .int x1), (2, .int x2)]) hx hb dX0_sumOfParts_39 rfl hl (by decide) rfl (fun ls hl => ?_)
        refine lv_iinc (v := z5_4 + 1) (lv' := [(4, .int (z5_4 + 1)), (3, .int (z5_3 + (ga (C 14) ((z5_4 * 2) + x2).toNatClampNeg))), (0, .ref (a 1)), (1, .int x1), (2, .int x2)]) hx hb dX0_sumOfParts_40 hl (k := 1) rfl (by rfl) (by decide) rfl (fun ls hl => ?_)
        refine lv_goto (tgt := 5) hx hb dX0_sumOfParts_43 (by decide) ?_
        exact ih_5 _ (hd_5 ▸ mu_up 5 (rn_ltu (u' := 4) (Int32.not_le.mp c_1) hz5_4 (tA_rdc (lo := 0) (hi := 5) (tX_10 hT0) (rg_in (rg_c (v := 3) (lo := 3) (hi := 3) (by decide)) (by decide)) (show _ = 3 by decide) (by decide)) (by decide)) (by decide)) (z5_4 + 1) (z5_3 + (ga (C 14) ((z5_4 * 2) + x2).toNatClampNeg)) ls rfl (rg_w (rg_add (lo := 1) (hi := 5) (rn_ltu (u' := 4) (Int32.not_le.mp c_1) hz5_4 (tA_rdc (lo := 0) (hi := 5) (tX_10 hT0) (rg_in (rg_c (v := 3) (lo := 3) (hi := 3) (by decide)) (by decide)) (show _ = 3 by decide) (by decide)) (by decide)) (rg_c (v := 1) (lo := 1) (hi := 1) (by decide)) (by decide)) (by decide)) (lv_sub hl [0, 1, 2, 3, 4] rfl)
  exact L_5 _ 0 0 ls rfl (rg_w (rg_c (v := 0) (lo := 0) (hi := 0) (by decide)) (by decide)) (lv_sub hl [0, 1, 2, 3, 4] rfl)

set_option maxHeartbeats 4000000 in
set_option maxRecDepth 100000 in
theorem c_X0_isPropped (l : Launch) (D : va_G) (E : Nat → ClassId) (G : Nat → Nat) (a : Nat → Nat) (C : Nat → va_E) (hT : TyX a E C) (x1 : Int32) (hx1 : rg x1 0 15) : Met l yX0_isPropped (oh_w yX0_isPropped cX0_isPropped 2 (some .boolean)) ({ frames := 1, cells := 0, slots := 0, locals := 22 }) (oh_Pp D E G [.ref (a 1), .int x1] (oh_W 35 a C)) (vp_Si (fun r => (r = 0 ∨ r = 1))) 0 0 (fun _ => False) := by
  refine Met.ofW (cc := cX0_isPropped) (maxL := 2) (ret := (some .boolean)) (by decide) rfl ?_
  intro p e s m args below meth c s₁ B hml hv
  obtain ⟨rfl, hP, hK, hG⟩ := hv
  have hx := B.exec
  have hb := B.bytes
  have hr := B.returns
  have hts := atoms_spec (ws := (oh_w yX0_isPropped cX0_isPropped 2 (some .boolean))) B.pre
  have htg : ∀ w ∈ oh_t, w.before _ s = true := fun w h => hts w (List.mem_cons_of_mem _ h)
  have hown : s.vm.findClass RX0 = some m.cls := findClass_of_methodNamed B.named
  have hlocks := B.notSynchronized
  have hT0 := hT
  have hS : va_S (fun _ => False) s.heap s.heap [] := va_S.rf
  have hl := lv_entry ([.ref (a 1), .int x1]) (n := 2) (Nat.le_of_ble_eq_true rfl)
  rw [lg_entry_eq]
  generalize (lg_sl ([.ref (a 1), .int x1]) ++ List.replicate (2 - (lg_sl ([.ref (a 1), .int x1])).length) Slot.unset).toArray = ls at hl ⊢
  have hl : lv_has ls 2 [(0, .ref (a 1)), (1, .int x1)] := hl
  refine oh_genQ (fun Q hQ => ?_)
  refine lv_aload_n hx hb dX0_isPropped_0 rfl (lv_at hl 0 rfl) ?_
  refine lv_iload_n hx hb dX0_isPropped_1 rfl (lv_at hl 1 rfl) ?_
  refine lv_bipush (v := 7) hx hb dX0_isPropped_2 (by decide) ?_
  refine tq_V (As := [.int x1, .int 7]) (rest := []) (ws := (oh_W 35 a C)) ⟨hx, hb, hml, hown, htg⟩ (c_X0_ofBridge l D E G a C hT x1 (7 : Int32) (rg_w hx1 (by decide)) (rg_w (rg_c (v := 7) (lo := 7) (hi := 7) (by decide)) (by decide))) (cwV 2 htg (oh_gV q_384 q_385 q_386 q_67 q_387) rfl rfl rfl pdVX0_ofBridge ⟨Nat.le_of_ble_eq_true rfl, Nat.le_of_ble_eq_true rfl⟩) hK hP hG hS (va_recv hK hP (ci := 0) (q0 := 1) rfl (oh_wg (by decide) (sX_1 hT))) rfl hl.1 rfl (Nat.le_of_ble_eq_true rfl) dX0_isPropped_4 ⟨Nat.le_of_ble_eq_true rfl, Nat.le_of_ble_eq_true rfl⟩ (fun r_1 hq_2 => ?_)
  subst hq_2
  refine lv_iconst (v := 1) hx hb dX0_isPropped_7 (by decide) ?_
  refine lv_icmp_ne (tgt := 15) hx hb dX0_isPropped_8 (by decide) (fun (c_3 : ¬ ((ga (C 12) ((x1 * 10) + 7).toNatClampNeg) = 1)) => ?_) (fun (c_3 : (ga (C 12) ((x1 * 10) + 7).toNatClampNeg) = 1) => ?_)
  · refine lv_iconst (v := 0) hx hb dX0_isPropped_15 (by decide) ?_
    rw [hQ]
    exact W.zret (v := 0) (ty := .boolean) hx hb hr (by decide) (fun t ht hW => ⟨0, rfl, (Or.inl rfl), ht⟩) (fun q h => by cases h) dX0_isPropped_16
  · refine lv_iconst (v := 1) hx hb dX0_isPropped_11 (by decide) ?_
    refine lv_goto (tgt := 16) hx hb dX0_isPropped_12 (by decide) ?_
    rw [hQ]
    exact W.zret (v := 1) (ty := .boolean) hx hb hr (by decide) (fun t ht hW => ⟨1, rfl, (Or.inr rfl), ht⟩) (fun q h => by cases h) dX0_isPropped_16

set_option maxHeartbeats 4000000 in
set_option maxRecDepth 100000 in
theorem c_X0_mayBeTakenFor (l : Launch) (D : va_G) (E : Nat → ClassId) (G : Nat → Nat) (a : Nat → Nat) (C : Nat → va_E) (hT : TyX a E C) (x1 : Int32) (x2 : Int32) (hx1 : rg x1 0 15) : Met l yX0_mayBeTakenFor (oh_w yX0_mayBeTakenFor cX0_mayBeTakenFor 3 (some .boolean)) ({ frames := 1, cells := 0, slots := 0, locals := 22 }) (oh_Pp D E G [.ref (a 1), .int x1, .int x2] (oh_W 35 a C)) (vp_Si (fun r => (r = 0 ∨ r = 1))) 0 0 (fun _ => False) := by
  refine Met.ofW (cc := cX0_mayBeTakenFor) (maxL := 3) (ret := (some .boolean)) (by decide) rfl ?_
  intro p e s m args below meth c s₁ B hml hv
  obtain ⟨rfl, hP, hK, hG⟩ := hv
  have hx := B.exec
  have hb := B.bytes
  have hr := B.returns
  have hts := atoms_spec (ws := (oh_w yX0_mayBeTakenFor cX0_mayBeTakenFor 3 (some .boolean))) B.pre
  have htg : ∀ w ∈ oh_t, w.before _ s = true := fun w h => hts w (List.mem_cons_of_mem _ h)
  have hown : s.vm.findClass RX0 = some m.cls := findClass_of_methodNamed B.named
  have hlocks := B.notSynchronized
  have hT0 := hT
  have hS : va_S (fun _ => False) s.heap s.heap [] := va_S.rf
  have hl := lv_entry ([.ref (a 1), .int x1, .int x2]) (n := 3) (Nat.le_of_ble_eq_true rfl)
  rw [lg_entry_eq]
  generalize (lg_sl ([.ref (a 1), .int x1, .int x2]) ++ List.replicate (3 - (lg_sl ([.ref (a 1), .int x1, .int x2])).length) Slot.unset).toArray = ls at hl ⊢
  have hl : lv_has ls 3 [(0, .ref (a 1)), (1, .int x1), (2, .int x2)] := hl
  refine oh_genQ (fun Q hQ => ?_)
  refine va_getsN hx hb hG.2.2.2.2.2.1.1 hS hown (va_Nw.use rfl (hG.2.1 ("OneHeavyLoad$Land", 57, "OneHeavyLoad", "TAKEN_FOR", "[I", "OneHeavyLoad") (List.mem_of_getElem? (i := 3) rfl))) (fun _ h9 => h9) dX0_mayBeTakenFor_0 ?_
  refine lv_aload_n hx hb dX0_mayBeTakenFor_3 rfl (lv_at hl 0 rfl) ?_
  refine lv_iload_n hx hb dX0_mayBeTakenFor_4 rfl (lv_at hl 1 rfl) ?_
  refine lv_iconst (v := 1) hx hb dX0_mayBeTakenFor_5 (by decide) ?_
  refine tq_V (As := [.int x1, .int 1]) (rest := [.ref (G 2)]) (ws := (oh_W 35 a C)) ⟨hx, hb, hml, hown, htg⟩ (c_X0_ofBridge l D E G a C hT x1 (1 : Int32) (rg_w hx1 (by decide)) (rg_w (rg_c (v := 1) (lo := 1) (hi := 1) (by decide)) (by decide))) (cwV 2 htg (oh_gV q_384 q_385 q_386 q_67 q_387) rfl rfl rfl pdVX0_ofBridge ⟨Nat.le_of_ble_eq_true rfl, Nat.le_of_ble_eq_true rfl⟩) hK hP hG hS (va_recv hK hP (ci := 0) (q0 := 1) rfl (oh_wg (by decide) (sX_1 hT))) rfl hl.1 rfl (Nat.le_of_ble_eq_true rfl) dX0_mayBeTakenFor_6 ⟨Nat.le_of_ble_eq_true rfl, Nat.le_of_ble_eq_true rfl⟩ (fun r_1 hq_2 => ?_)
  subst hq_2
  refine va_ti (v := .int (oh_tak (ga (C 12) ((x1 * 10) + 1).toNatClampNeg).toNatClampNeg)) hx hb hG.2.2.2.2.2.1.2 hS (rg_in (tA_rdc (lo := 0) (hi := 5) (tX_12 hT0) (rg_in (rg_add (lo := 1) (hi := 151) (rg_mul (lo := 0) (hi := 150) hx1 (rg_c (v := 10) (lo := 10) (hi := 10) (by decide)) (by decide)) (rg_c (v := 1) (lo := 1) (hi := 1) (by decide)) (by decide)) (by decide)) (oh_col (W := 10) hx1 rfl (rg_c (v := 1) (lo := 1) (hi := 1) (by decide)) (by decide)) (by decide)) (by decide)) rfl dX0_mayBeTakenFor_9 ?_
  refine lv_iload_n hx hb dX0_mayBeTakenFor_10 rfl (lv_at hl 2 rfl) ?_
  refine lv_ishr hx hb dX0_mayBeTakenFor_11 ?_
  refine lv_iconst (v := 1) hx hb dX0_mayBeTakenFor_12 (by decide) ?_
  refine lv_iand hx hb dX0_mayBeTakenFor_13 ?_
  refine lv_iconst (v := 1) hx hb dX0_mayBeTakenFor_14 (by decide) ?_
  refine lv_icmp_ne (tgt := 22) hx hb dX0_mayBeTakenFor_15 (by decide) (fun (c_3 : ¬ ((((oh_tak (ga (C 12) ((x1 * 10) + 1).toNatClampNeg).toNatClampNeg) >>> (x2 &&& 31)) &&& 1) = 1)) => ?_) (fun (c_3 : (((oh_tak (ga (C 12) ((x1 * 10) + 1).toNatClampNeg).toNatClampNeg) >>> (x2 &&& 31)) &&& 1) = 1) => ?_)
  · refine lv_iconst (v := 0) hx hb dX0_mayBeTakenFor_22 (by decide) ?_
    rw [hQ]
    exact W.zret (v := 0) (ty := .boolean) hx hb hr (by decide) (fun t ht hW => ⟨0, rfl, (Or.inl rfl), ht⟩) (fun q h => by cases h) dX0_mayBeTakenFor_23
  · refine lv_iconst (v := 1) hx hb dX0_mayBeTakenFor_18 (by decide) ?_
    refine lv_goto (tgt := 23) hx hb dX0_mayBeTakenFor_19 (by decide) ?_
    rw [hQ]
    exact W.zret (v := 1) (ty := .boolean) hx hb hr (by decide) (fun t ht hW => ⟨1, rfl, (Or.inr rfl), ht⟩) (fun q h => by cases h) dX0_mayBeTakenFor_23

set_option maxHeartbeats 4000000 in
set_option maxRecDepth 100000 in
theorem c_X0_believed (l : Launch) (D : va_G) (E : Nat → ClassId) (G : Nat → Nat) (a : Nat → Nat) (C : Nat → va_E) (hT : TyX a E C) (x1 : Int32) (x2 : Int32) (hx1 : rg x1 0 150) : Met l yX0_believed (oh_w yX0_believed cX0_believed 5 (some .int)) ({ frames := 0, cells := 0, slots := 0, locals := 0 }) (oh_Pp D E G [.ref (a 1), .int x1, .int x2] (oh_W 35 a C)) (vp_Si (fun r => True)) 0 0 (fun _ => False) := by
  refine Met.ofW (cc := cX0_believed) (maxL := 5) (ret := (some .int)) (by decide) rfl ?_
  intro p e s m args below meth c s₁ B hml hv
  obtain ⟨rfl, hP, hK, hG⟩ := hv
  have hx := B.exec
  have hb := B.bytes
  have hr := B.returns
  have hts := atoms_spec (ws := (oh_w yX0_believed cX0_believed 5 (some .int))) B.pre
  have htg : ∀ w ∈ oh_t, w.before _ s = true := fun w h => hts w (List.mem_cons_of_mem _ h)
  have hown : s.vm.findClass RX0 = some m.cls := findClass_of_methodNamed B.named
  have hlocks := B.notSynchronized
  have hT0 := hT
  have hS : va_S (fun _ => False) s.heap s.heap [] := va_S.rf
  have hl := lv_entry ([.ref (a 1), .int x1, .int x2]) (n := 5) (Nat.le_of_ble_eq_true rfl)
  rw [lg_entry_eq]
  generalize (lg_sl ([.ref (a 1), .int x1, .int x2]) ++ List.replicate (5 - (lg_sl ([.ref (a 1), .int x1, .int x2])).length) Slot.unset).toArray = ls at hl ⊢
  have hl : lv_has ls 5 [(0, .ref (a 1)), (1, .int x1), (2, .int x2)] := hl
  refine oh_genQ (fun Q hQ => ?_)
  refine lv_aload_n hx hb dX0_believed_0 rfl (lv_at hl 0 rfl) ?_
  refine va_get (D := D) (ci := 0) (v := .ref (a 12)) (C := RX0) (T := TX0) (N := 8) hx hb htg ig_0 hown hK hP 1 (oh_wg (by decide) (sX_1 hT)) rfl 2 (by decide) (htg _ q_103) (fun _ h9 => h9) rfl dX0_believed_1 ?_
  refine lv_iload_n hx hb dX0_believed_4 rfl (lv_at hl 1 rfl) ?_
  refine lv_iconst (v := 1) hx hb dX0_believed_5 (by decide) ?_
  refine lv_iadd hx hb dX0_believed_6 ?_
  have n_1 : vp_in (x1 + 1) 160 := (rg_in (rg_add (lo := 1) (hi := 151) hx1 (rg_c (v := 1) (lo := 1) (hi := 1) (by decide)) (by decide)) (by decide))
  refine th_iald hx hb hK hP 12 (by decide) (sX_12 hT) n_1 dX0_believed_7 ?_
  refine lv_istore_n (lv' := [(3, .int (ga (C 12) (x1 + 1).toNatClampNeg)), (0, .ref (a 1)), (1, .int x1), (2, .int x2)]) hx hb dX0_believed_8 rfl hl (by decide) rfl (fun ls hl => ?_)
  refine lv_aload_n hx hb dX0_believed_9 rfl (lv_at hl 1 rfl) ?_
  refine va_get (D := D) (ci := 0) (v := .ref (a 12)) (C := RX0) (T := TX0) (N := 8) hx hb htg ig_0 hown hK hP 1 (oh_wg (by decide) (sX_1 hT)) rfl 2 (by decide) (htg _ q_103) (fun _ h9 => h9) rfl dX0_believed_10 ?_
  refine lv_iload_n hx hb dX0_believed_13 rfl (lv_at hl 2 rfl) ?_
  refine lv_bipush (v := 8) hx hb dX0_believed_14 (by decide) ?_
  refine lv_iadd hx hb dX0_believed_16 ?_
  have n_2 : vp_in (x1 + 8) 160 := (rg_in (rg_add (lo := 8) (hi := 158) hx1 (rg_c (v := 8) (lo := 8) (hi := 8) (by decide)) (by decide)) (by decide))
  refine th_iald hx hb hK hP 12 (by decide) (sX_12 hT) n_2 dX0_believed_17 ?_
  refine lv_iconst (v := 1) hx hb dX0_believed_18 (by decide) ?_
  refine lv_icmp_eq (tgt := 36) hx hb dX0_believed_19 (by decide) (fun (c_3 : (ga (C 12) (x1 + 8).toNatClampNeg) = 1) => ?_) (fun (c_3 : ¬ ((ga (C 12) (x1 + 8).toNatClampNeg) = 1)) => ?_)
  · refine lv_iconst (v := 0) hx hb dX0_believed_36 (by decide) ?_
    rw [hQ]
    exact W.iret (v := 0) hx hb hr (fun t ht hW => ⟨0, rfl, trivial, ht⟩) (fun q h => by cases h) dX0_believed_37
  · refine lv_iload_n hx hb dX0_believed_22 rfl (lv_at hl 0 rfl) ?_
    refine lv_iconst (v := 5) hx hb dX0_believed_23 (by decide) ?_
    refine lv_icmp_ne (tgt := 38) hx hb dX0_believed_24 (by decide) (fun (c_4 : ¬ ((ga (C 12) (x1 + 1).toNatClampNeg) = 5)) => ?_) (fun (c_4 : (ga (C 12) (x1 + 1).toNatClampNeg) = 5) => ?_)
    · refine lv_iload_n hx hb dX0_believed_38 rfl (lv_at hl 0 rfl) ?_
      refine lv_iconst (v := 4) hx hb dX0_believed_39 (by decide) ?_
      refine lv_icmp_eq (tgt := 48) hx hb dX0_believed_40 (by decide) (fun (c_5 : (ga (C 12) (x1 + 1).toNatClampNeg) = 4) => ?_) (fun (c_5 : ¬ ((ga (C 12) (x1 + 1).toNatClampNeg) = 4)) => ?_)
      · refine lv_iconst (v := 1) hx hb dX0_believed_48 (by decide) ?_
        refine lv_goto (tgt := 53) hx hb dX0_believed_49 (by decide) ?_
        refine lv_istore (lv' := [(4, .int 1), (3, .int (ga (C 12) (x1 + 1).toNatClampNeg)), (0, .ref (a 1)), (1, .int x1), (2, .int x2)]) hx hb dX0_believed_53 hl (by decide) rfl (fun ls hl => ?_)
        refine lv_iload hx hb dX0_believed_55 (lv_at hl 0 rfl) ?_
        refine lv_if_eq (tgt := 78) hx hb dX0_believed_57 (by decide) (fun c => absurd c (show ¬ ((1 : Int32) = 0) from by decide)) (fun _ => ?_)
        refine lv_aload_n hx hb dX0_believed_60 rfl (lv_at hl 2 rfl) ?_
        refine va_get (D := D) (ci := 0) (v := .ref (a 12)) (C := RX0) (T := TX0) (N := 8) hx hb htg ig_0 hown hK hP 1 (oh_wg (by decide) (sX_1 hT)) rfl 2 (by decide) (htg _ q_103) (fun _ h9 => h9) rfl dX0_believed_61 ?_
        refine lv_iload_n hx hb dX0_believed_64 rfl (lv_at hl 3 rfl) ?_
        refine lv_bipush (v := 9) hx hb dX0_believed_65 (by decide) ?_
        refine lv_iadd hx hb dX0_believed_67 ?_
        have n_6 : vp_in (x1 + 9) 160 := (rg_in (rg_add (lo := 9) (hi := 159) hx1 (rg_c (v := 9) (lo := 9) (hi := 9) (by decide)) (by decide)) (by decide))
        refine th_iald hx hb hK hP 12 (by decide) (sX_12 hT) n_6 dX0_believed_68 ?_
        refine lv_if_ne (tgt := 78) hx hb dX0_believed_69 (by decide) (fun (c_7 : ¬ ((ga (C 12) (x1 + 9).toNatClampNeg) = 0)) => ?_) (fun (c_7 : (ga (C 12) (x1 + 9).toNatClampNeg) = 0) => ?_)
        · refine lv_iload_n hx hb dX0_believed_78 rfl (lv_at hl 4 rfl) ?_
          rw [hQ]
          exact W.iret (v := x2) hx hb hr (fun t ht hW => ⟨x2, rfl, trivial, ht⟩) (fun q h => by cases h) dX0_believed_79
        · refine lv_iload_n hx hb dX0_believed_72 rfl (lv_at hl 4 rfl) ?_
          refine lv_iconst (v := 2) hx hb dX0_believed_73 (by decide) ?_
          refine lv_idiv hx hb dX0_believed_74 (by decide) ?_
          refine lv_goto (tgt := 79) hx hb dX0_believed_75 (by decide) ?_
          rw [hQ]
          exact W.iret (v := x2 / 2) hx hb hr (fun t ht hW => ⟨x2 / 2, rfl, trivial, ht⟩) (fun q h => by cases h) dX0_believed_79
      · refine lv_iload_n hx hb dX0_believed_43 rfl (lv_at hl 0 rfl) ?_
        refine lv_iconst (v := 5) hx hb dX0_believed_44 (by decide) ?_
        refine lv_icmp_ne (tgt := 52) hx hb dX0_believed_45 (by decide) (fun (c_8 : ¬ ((ga (C 12) (x1 + 1).toNatClampNeg) = 5)) => ?_) (fun (c_8 : (ga (C 12) (x1 + 1).toNatClampNeg) = 5) => ?_)
        · refine lv_iconst (v := 0) hx hb dX0_believed_52 (by decide) ?_
          refine lv_istore (lv' := [(4, .int 0), (3, .int (ga (C 12) (x1 + 1).toNatClampNeg)), (0, .ref (a 1)), (1, .int x1), (2, .int x2)]) hx hb dX0_believed_53 hl (by decide) rfl (fun ls hl => ?_)
          refine lv_iload hx hb dX0_believed_55 (lv_at hl 0 rfl) ?_
          refine lv_if_eq (tgt := 78) hx hb dX0_believed_57 (by decide) (fun _ => ?_) (fun c => absurd (show (0 : Int32) = 0 from by decide) c)
          refine lv_iload_n hx hb dX0_believed_78 rfl (lv_at hl 4 rfl) ?_
          rw [hQ]
          exact W.iret (v := x2) hx hb hr (fun t ht hW => ⟨x2, rfl, trivial, ht⟩) (fun q h => by cases h) dX0_believed_79
        · refine lv_iconst (v := 1) hx hb dX0_believed_48 (by decide) ?_
          refine lv_goto (tgt := 53) hx hb dX0_believed_49 (by decide) ?_
          refine lv_istore (lv' := [(4, .int 1), (3, .int (ga (C 12) (x1 + 1).toNatClampNeg)), (0, .ref (a 1)), (1, .int x1), (2, .int x2)]) hx hb dX0_believed_53 hl (by decide) rfl (fun ls hl => ?_)
          refine lv_iload hx hb dX0_believed_55 (lv_at hl 0 rfl) ?_
          refine lv_if_eq (tgt := 78) hx hb dX0_believed_57 (by decide) (fun c => absurd c (show ¬ ((1 : Int32) = 0) from by decide)) (fun _ => ?_)
          refine lv_aload_n hx hb dX0_believed_60 rfl (lv_at hl 2 rfl) ?_
          refine va_get (D := D) (ci := 0) (v := .ref (a 12)) (C := RX0) (T := TX0) (N := 8) hx hb htg ig_0 hown hK hP 1 (oh_wg (by decide) (sX_1 hT)) rfl 2 (by decide) (htg _ q_103) (fun _ h9 => h9) rfl dX0_believed_61 ?_
          refine lv_iload_n hx hb dX0_believed_64 rfl (lv_at hl 3 rfl) ?_
          refine lv_bipush (v := 9) hx hb dX0_believed_65 (by decide) ?_
          refine lv_iadd hx hb dX0_believed_67 ?_
          have n_9 : vp_in (x1 + 9) 160 := (rg_in (rg_add (lo := 9) (hi := 159) hx1 (rg_c (v := 9) (lo := 9) (hi := 9) (by decide)) (by decide)) (by decide))
          refine th_iald hx hb hK hP 12 (by decide) (sX_12 hT) n_9 dX0_believed_68 ?_
          refine lv_if_ne (tgt := 78) hx hb dX0_believed_69 (by decide) (fun (c_10 : ¬ ((ga (C 12) (x1 + 9).toNatClampNeg) = 0)) => ?_) (fun (c_10 : (ga (C 12) (x1 + 9).toNatClampNeg) = 0) => ?_)
          · refine lv_iload_n hx hb dX0_believed_78 rfl (lv_at hl 4 rfl) ?_
            rw [hQ]
            exact W.iret (v := x2) hx hb hr (fun t ht hW => ⟨x2, rfl, trivial, ht⟩) (fun q h => by cases h) dX0_believed_79
          · refine lv_iload_n hx hb dX0_believed_72 rfl (lv_at hl 4 rfl) ?_
            refine lv_iconst (v := 2) hx hb dX0_believed_73 (by decide) ?_
            refine lv_idiv hx hb dX0_believed_74 (by decide) ?_
            refine lv_goto (tgt := 79) hx hb dX0_believed_75 (by decide) ?_
            rw [hQ]
            exact W.iret (v := x2 / 2) hx hb hr (fun t ht hW => ⟨x2 / 2, rfl, trivial, ht⟩) (fun q h => by cases h) dX0_believed_79
    · refine lv_aload_n hx hb dX0_believed_27 rfl (lv_at hl 1 rfl) ?_
      refine va_get (D := D) (ci := 0) (v := .ref (a 15)) (C := RX0) (T := TX0) (N := 8) hx hb htg ig_0 hown hK hP 1 (oh_wg (by decide) (sX_1 hT)) rfl 5 (by decide) (htg _ q_106) (fun _ h9 => h9) rfl dX0_believed_28 ?_
      refine lv_iconst (v := 2) hx hb dX0_believed_31 (by decide) ?_
      refine th_iald hx hb hK hP 15 (by decide) (sX_15 hT) (rg_in (rg_c (v := 2) (lo := 2) (hi := 2) (by decide)) (by decide)) dX0_believed_32 ?_
      refine lv_if_ne (tgt := 38) hx hb dX0_believed_33 (by decide) (fun (c_11 : ¬ ((ga (C 15) ((2 : Int32)).toNatClampNeg) = 0)) => ?_) (fun (c_11 : (ga (C 15) ((2 : Int32)).toNatClampNeg) = 0) => ?_)
      · refine lv_iload_n hx hb dX0_believed_38 rfl (lv_at hl 0 rfl) ?_
        refine lv_iconst (v := 4) hx hb dX0_believed_39 (by decide) ?_
        refine lv_icmp_eq (tgt := 48) hx hb dX0_believed_40 (by decide) (fun (c_12 : (ga (C 12) (x1 + 1).toNatClampNeg) = 4) => ?_) (fun (c_12 : ¬ ((ga (C 12) (x1 + 1).toNatClampNeg) = 4)) => ?_)
        · refine lv_iconst (v := 1) hx hb dX0_believed_48 (by decide) ?_
          refine lv_goto (tgt := 53) hx hb dX0_believed_49 (by decide) ?_
          refine lv_istore (lv' := [(4, .int 1), (3, .int (ga (C 12) (x1 + 1).toNatClampNeg)), (0, .ref (a 1)), (1, .int x1), (2, .int x2)]) hx hb dX0_believed_53 hl (by decide) rfl (fun ls hl => ?_)
          refine lv_iload hx hb dX0_believed_55 (lv_at hl 0 rfl) ?_
          refine lv_if_eq (tgt := 78) hx hb dX0_believed_57 (by decide) (fun c => absurd c (show ¬ ((1 : Int32) = 0) from by decide)) (fun _ => ?_)
          refine lv_aload_n hx hb dX0_believed_60 rfl (lv_at hl 2 rfl) ?_
          refine va_get (D := D) (ci := 0) (v := .ref (a 12)) (C := RX0) (T := TX0) (N := 8) hx hb htg ig_0 hown hK hP 1 (oh_wg (by decide) (sX_1 hT)) rfl 2 (by decide) (htg _ q_103) (fun _ h9 => h9) rfl dX0_believed_61 ?_
          refine lv_iload_n hx hb dX0_believed_64 rfl (lv_at hl 3 rfl) ?_
          refine lv_bipush (v := 9) hx hb dX0_believed_65 (by decide) ?_
          refine lv_iadd hx hb dX0_believed_67 ?_
          have n_13 : vp_in (x1 + 9) 160 := (rg_in (rg_add (lo := 9) (hi := 159) hx1 (rg_c (v := 9) (lo := 9) (hi := 9) (by decide)) (by decide)) (by decide))
          refine th_iald hx hb hK hP 12 (by decide) (sX_12 hT) n_13 dX0_believed_68 ?_
          refine lv_if_ne (tgt := 78) hx hb dX0_believed_69 (by decide) (fun (c_14 : ¬ ((ga (C 12) (x1 + 9).toNatClampNeg) = 0)) => ?_) (fun (c_14 : (ga (C 12) (x1 + 9).toNatClampNeg) = 0) => ?_)
          · refine lv_iload_n hx hb dX0_believed_78 rfl (lv_at hl 4 rfl) ?_
            rw [hQ]
            exact W.iret (v := x2) hx hb hr (fun t ht hW => ⟨x2, rfl, trivial, ht⟩) (fun q h => by cases h) dX0_believed_79
          · refine lv_iload_n hx hb dX0_believed_72 rfl (lv_at hl 4 rfl) ?_
            refine lv_iconst (v := 2) hx hb dX0_believed_73 (by decide) ?_
            refine lv_idiv hx hb dX0_believed_74 (by decide) ?_
            refine lv_goto (tgt := 79) hx hb dX0_believed_75 (by decide) ?_
            rw [hQ]
            exact W.iret (v := x2 / 2) hx hb hr (fun t ht hW => ⟨x2 / 2, rfl, trivial, ht⟩) (fun q h => by cases h) dX0_believed_79
        · refine lv_iload_n hx hb dX0_believed_43 rfl (lv_at hl 0 rfl) ?_
          refine lv_iconst (v := 5) hx hb dX0_believed_44 (by decide) ?_
          refine lv_icmp_ne (tgt := 52) hx hb dX0_believed_45 (by decide) (fun (c_15 : ¬ ((ga (C 12) (x1 + 1).toNatClampNeg) = 5)) => ?_) (fun (c_15 : (ga (C 12) (x1 + 1).toNatClampNeg) = 5) => ?_)
          · refine lv_iconst (v := 0) hx hb dX0_believed_52 (by decide) ?_
            refine lv_istore (lv' := [(4, .int 0), (3, .int (ga (C 12) (x1 + 1).toNatClampNeg)), (0, .ref (a 1)), (1, .int x1), (2, .int x2)]) hx hb dX0_believed_53 hl (by decide) rfl (fun ls hl => ?_)
            refine lv_iload hx hb dX0_believed_55 (lv_at hl 0 rfl) ?_
            refine lv_if_eq (tgt := 78) hx hb dX0_believed_57 (by decide) (fun _ => ?_) (fun c => absurd (show (0 : Int32) = 0 from by decide) c)
            refine lv_iload_n hx hb dX0_believed_78 rfl (lv_at hl 4 rfl) ?_
            rw [hQ]
            exact W.iret (v := x2) hx hb hr (fun t ht hW => ⟨x2, rfl, trivial, ht⟩) (fun q h => by cases h) dX0_believed_79
          · refine lv_iconst (v := 1) hx hb dX0_believed_48 (by decide) ?_
            refine lv_goto (tgt := 53) hx hb dX0_believed_49 (by decide) ?_
            refine lv_istore (lv' := [(4, .int 1), (3, .int (ga (C 12) (x1 + 1).toNatClampNeg)), (0, .ref (a 1)), (1, .int x1), (2, .int x2)]) hx hb dX0_believed_53 hl (by decide) rfl (fun ls hl => ?_)
            refine lv_iload hx hb dX0_believed_55 (lv_at hl 0 rfl) ?_
            refine lv_if_eq (tgt := 78) hx hb dX0_believed_57 (by decide) (fun c => absurd c (show ¬ ((1 : Int32) = 0) from by decide)) (fun _ => ?_)
            refine lv_aload_n hx hb dX0_believed_60 rfl (lv_at hl 2 rfl) ?_
            refine va_get (D := D) (ci := 0) (v := .ref (a 12)) (C := RX0) (T := TX0) (N := 8) hx hb htg ig_0 hown hK hP 1 (oh_wg (by decide) (sX_1 hT)) rfl 2 (by decide) (htg _ q_103) (fun _ h9 => h9) rfl dX0_believed_61 ?_
            refine lv_iload_n hx hb dX0_believed_64 rfl (lv_at hl 3 rfl) ?_
            refine lv_bipush (v := 9) hx hb dX0_believed_65 (by decide) ?_
            refine lv_iadd hx hb dX0_believed_67 ?_
            have n_16 : vp_in (x1 + 9) 160 := (rg_in (rg_add (lo := 9) (hi := 159) hx1 (rg_c (v := 9) (lo := 9) (hi := 9) (by decide)) (by decide)) (by decide))
            refine th_iald hx hb hK hP 12 (by decide) (sX_12 hT) n_16 dX0_believed_68 ?_
            refine lv_if_ne (tgt := 78) hx hb dX0_believed_69 (by decide) (fun (c_17 : ¬ ((ga (C 12) (x1 + 9).toNatClampNeg) = 0)) => ?_) (fun (c_17 : (ga (C 12) (x1 + 9).toNatClampNeg) = 0) => ?_)
            · refine lv_iload_n hx hb dX0_believed_78 rfl (lv_at hl 4 rfl) ?_
              rw [hQ]
              exact W.iret (v := x2) hx hb hr (fun t ht hW => ⟨x2, rfl, trivial, ht⟩) (fun q h => by cases h) dX0_believed_79
            · refine lv_iload_n hx hb dX0_believed_72 rfl (lv_at hl 4 rfl) ?_
              refine lv_iconst (v := 2) hx hb dX0_believed_73 (by decide) ?_
              refine lv_idiv hx hb dX0_believed_74 (by decide) ?_
              refine lv_goto (tgt := 79) hx hb dX0_believed_75 (by decide) ?_
              rw [hQ]
              exact W.iret (v := x2 / 2) hx hb hr (fun t ht hW => ⟨x2 / 2, rfl, trivial, ht⟩) (fun q h => by cases h) dX0_believed_79
      · refine lv_iconst (v := 0) hx hb dX0_believed_36 (by decide) ?_
        rw [hQ]
        exact W.iret (v := 0) hx hb hr (fun t ht hW => ⟨0, rfl, trivial, ht⟩) (fun q h => by cases h) dX0_believed_37

set_option maxHeartbeats 4000000 in
set_option maxRecDepth 100000 in
theorem c_X0_bearsAxle (l : Launch) (D : va_G) (E : Nat → ClassId) (G : Nat → Nat) (a : Nat → Nat) (C : Nat → va_E) (hT : TyX a E C) (x1 : Int32) (hx1 : rg x1 0 15) : Met l yX0_bearsAxle (oh_w yX0_bearsAxle cX0_bearsAxle 4 (some .int)) ({ frames := 1, cells := 0, slots := 0, locals := 24 }) (oh_Pp D E G [.ref (a 1), .int x1] (oh_W 35 a C)) (vp_Si (fun r => True)) 0 0 (fun _ => False) := by
  refine Met.ofW (cc := cX0_bearsAxle) (maxL := 4) (ret := (some .int)) (by decide) rfl ?_
  intro p e s m args below meth c s₁ B hml hv
  obtain ⟨rfl, hP, hK, hG⟩ := hv
  have hx := B.exec
  have hb := B.bytes
  have hr := B.returns
  have hts := atoms_spec (ws := (oh_w yX0_bearsAxle cX0_bearsAxle 4 (some .int))) B.pre
  have htg : ∀ w ∈ oh_t, w.before _ s = true := fun w h => hts w (List.mem_cons_of_mem _ h)
  have hown : s.vm.findClass RX0 = some m.cls := findClass_of_methodNamed B.named
  have hlocks := B.notSynchronized
  have hT0 := hT
  have hS : va_S (fun _ => False) s.heap s.heap [] := va_S.rf
  have hl := lv_entry ([.ref (a 1), .int x1]) (n := 4) (Nat.le_of_ble_eq_true rfl)
  rw [lg_entry_eq]
  generalize (lg_sl ([.ref (a 1), .int x1]) ++ List.replicate (4 - (lg_sl ([.ref (a 1), .int x1])).length) Slot.unset).toArray = ls at hl ⊢
  have hl : lv_has ls 4 [(0, .ref (a 1)), (1, .int x1)] := hl
  refine oh_genQ (fun Q hQ => ?_)
  refine lv_iload_n hx hb dX0_bearsAxle_0 rfl (lv_at hl 1 rfl) ?_
  refine lv_bipush (v := 10) hx hb dX0_bearsAxle_1 (by decide) ?_
  refine lv_imul hx hb dX0_bearsAxle_3 ?_
  refine lv_istore_n (lv' := [(2, .int (x1 * 10)), (0, .ref (a 1)), (1, .int x1)]) hx hb dX0_bearsAxle_4 rfl hl (by decide) rfl (fun ls hl => ?_)
  refine lv_aload_n hx hb dX0_bearsAxle_5 rfl (lv_at hl 1 rfl) ?_
  refine va_get (D := D) (ci := 0) (v := .ref (a 12)) (C := RX0) (T := TX0) (N := 8) hx hb htg ig_0 hown hK hP 1 (oh_wg (by decide) (sX_1 hT)) rfl 2 (by decide) (htg _ q_103) (fun _ h9 => h9) rfl dX0_bearsAxle_6 ?_
  refine lv_iload_n hx hb dX0_bearsAxle_9 rfl (lv_at hl 0 rfl) ?_
  refine lv_iconst (v := 3) hx hb dX0_bearsAxle_10 (by decide) ?_
  refine lv_iadd hx hb dX0_bearsAxle_11 ?_
  have n_1 : vp_in ((x1 * 10) + 3) 160 := (rg_in (rg_add (lo := 3) (hi := 153) (rg_mul (lo := 0) (hi := 150) hx1 (rg_c (v := 10) (lo := 10) (hi := 10) (by decide)) (by decide)) (rg_c (v := 3) (lo := 3) (hi := 3) (by decide)) (by decide)) (by decide))
  refine th_iald hx hb hK hP 12 (by decide) (sX_12 hT) n_1 dX0_bearsAxle_12 ?_
  refine lv_istore_n (lv' := [(3, .int (ga (C 12) ((x1 * 10) + 3).toNatClampNeg)), (2, .int (x1 * 10)), (0, .ref (a 1)), (1, .int x1)]) hx hb dX0_bearsAxle_13 rfl hl (by decide) rfl (fun ls hl => ?_)
  refine lv_aload_n hx hb dX0_bearsAxle_14 rfl (lv_at hl 2 rfl) ?_
  refine lv_iload_n hx hb dX0_bearsAxle_15 rfl (lv_at hl 1 rfl) ?_
  refine lv_aload_n hx hb dX0_bearsAxle_16 rfl (lv_at hl 2 rfl) ?_
  refine va_get (D := D) (ci := 0) (v := .ref (a 12)) (C := RX0) (T := TX0) (N := 8) hx hb htg ig_0 hown hK hP 1 (oh_wg (by decide) (sX_1 hT)) rfl 2 (by decide) (htg _ q_103) (fun _ h9 => h9) rfl dX0_bearsAxle_17 ?_
  refine lv_iload_n hx hb dX0_bearsAxle_20 rfl (lv_at hl 1 rfl) ?_
  refine lv_iconst (v := 1) hx hb dX0_bearsAxle_21 (by decide) ?_
  refine lv_iadd hx hb dX0_bearsAxle_22 ?_
  have n_2 : vp_in ((x1 * 10) + 1) 160 := (rg_in (rg_add (lo := 1) (hi := 151) (rg_mul (lo := 0) (hi := 150) hx1 (rg_c (v := 10) (lo := 10) (hi := 10) (by decide)) (by decide)) (rg_c (v := 1) (lo := 1) (hi := 1) (by decide)) (by decide)) (by decide))
  refine th_iald hx hb hK hP 12 (by decide) (sX_12 hT) n_2 dX0_bearsAxle_23 ?_
  refine lv_iconst (v := 2) hx hb dX0_bearsAxle_24 (by decide) ?_
  refine lv_icmp_ne (tgt := 34) hx hb dX0_bearsAxle_25 (by decide) (fun (c_3 : ¬ ((ga (C 12) ((x1 * 10) + 1).toNatClampNeg) = 2)) => ?_) (fun (c_3 : (ga (C 12) ((x1 * 10) + 1).toNatClampNeg) = 2) => ?_)
  · refine lv_iload_n hx hb dX0_bearsAxle_34 rfl (lv_at hl 0 rfl) ?_
    refine tq_V (As := [.int (x1 * 10), .int (ga (C 12) ((x1 * 10) + 3).toNatClampNeg)]) (rest := []) (ws := (oh_W 35 a C)) ⟨hx, hb, hml, hown, htg⟩ (c_X0_believed l D E G a C hT (x1 * 10) (ga (C 12) ((x1 * 10) + 3).toNatClampNeg) (rg_w (rg_mul (lo := 0) (hi := 150) hx1 (rg_c (v := 10) (lo := 10) (hi := 10) (by decide)) (by decide)) (by decide))) (cwV 2 htg (oh_gV q_397 q_399 q_4 q_67 q_400) rfl rfl rfl pdVX0_believed ⟨Nat.le_of_ble_eq_true rfl, Nat.le_of_ble_eq_true rfl⟩) hK hP hG hS (va_recv hK hP (ci := 0) (q0 := 1) rfl (oh_wg (by decide) (sX_1 hT))) rfl hl.1 rfl (Nat.le_of_ble_eq_true rfl) dX0_bearsAxle_35 ⟨Nat.le_of_ble_eq_true rfl, Nat.le_of_ble_eq_true rfl⟩ (fun r_4 hq_5 => ?_)
    rw [hQ]
    exact W.iret (v := r_4) hx hb hr (fun t ht hW => ⟨r_4, rfl, trivial, ht⟩) (fun q h => by cases h) dX0_bearsAxle_38
  · refine lv_iload_n hx hb dX0_bearsAxle_28 rfl (lv_at hl 0 rfl) ?_
    refine lv_iconst (v := 5) hx hb dX0_bearsAxle_29 (by decide) ?_
    refine lv_iadd hx hb dX0_bearsAxle_30 ?_
    refine lv_goto (tgt := 35) hx hb dX0_bearsAxle_31 (by decide) ?_
    refine tq_V (As := [.int (x1 * 10), .int ((ga (C 12) ((x1 * 10) + 3).toNatClampNeg) + 5)]) (rest := []) (ws := (oh_W 35 a C)) ⟨hx, hb, hml, hown, htg⟩ (c_X0_believed l D E G a C hT (x1 * 10) ((ga (C 12) ((x1 * 10) + 3).toNatClampNeg) + 5) (rg_w (rg_mul (lo := 0) (hi := 150) hx1 (rg_c (v := 10) (lo := 10) (hi := 10) (by decide)) (by decide)) (by decide))) (cwV 2 htg (oh_gV q_397 q_399 q_4 q_67 q_400) rfl rfl rfl pdVX0_believed ⟨Nat.le_of_ble_eq_true rfl, Nat.le_of_ble_eq_true rfl⟩) hK hP hG hS (va_recv hK hP (ci := 0) (q0 := 1) rfl (oh_wg (by decide) (sX_1 hT))) rfl hl.1 rfl (Nat.le_of_ble_eq_true rfl) dX0_bearsAxle_35 ⟨Nat.le_of_ble_eq_true rfl, Nat.le_of_ble_eq_true rfl⟩ (fun r_6 hq_7 => ?_)
    rw [hQ]
    exact W.iret (v := r_6) hx hb hr (fun t ht hW => ⟨r_6, rfl, trivial, ht⟩) (fun q h => by cases h) dX0_bearsAxle_38

set_option maxHeartbeats 4000000 in
set_option maxRecDepth 100000 in
theorem c_X0_bearsAll (l : Launch) (D : va_G) (E : Nat → ClassId) (G : Nat → Nat) (a : Nat → Nat) (C : Nat → va_E) (hT : TyX a E C) (x1 : Int32) (x2 : Int32) (hx1 : rg x1 0 15) (hx2 : rg x2 0 1) : Met l yX0_bearsAll (oh_w yX0_bearsAll cX0_bearsAll 8 (some .int)) ({ frames := 1, cells := 0, slots := 0, locals := 24 }) (oh_Pp D E G [.ref (a 1), .int x1, .int x2] (oh_W 35 a C)) (vp_Si (fun r => True)) 0 0 (fun _ => False) := by
  refine Met.ofW (cc := cX0_bearsAll) (maxL := 8) (ret := (some .int)) (by decide) rfl ?_
  intro p e s m args below meth c s₁ B hml hv
  obtain ⟨rfl, hP, hK, hG⟩ := hv
  have hx := B.exec
  have hb := B.bytes
  have hr := B.returns
  have hts := atoms_spec (ws := (oh_w yX0_bearsAll cX0_bearsAll 8 (some .int))) B.pre
  have htg : ∀ w ∈ oh_t, w.before _ s = true := fun w h => hts w (List.mem_cons_of_mem _ h)
  have hown : s.vm.findClass RX0 = some m.cls := findClass_of_methodNamed B.named
  have hlocks := B.notSynchronized
  have hT0 := hT
  have hS : va_S (fun _ => False) s.heap s.heap [] := va_S.rf
  have hl := lv_entry ([.ref (a 1), .int x1, .int x2]) (n := 8) (Nat.le_of_ble_eq_true rfl)
  rw [lg_entry_eq]
  generalize (lg_sl ([.ref (a 1), .int x1, .int x2]) ++ List.replicate (8 - (lg_sl ([.ref (a 1), .int x1, .int x2])).length) Slot.unset).toArray = ls at hl ⊢
  have hl : lv_has ls 8 [(0, .ref (a 1)), (1, .int x1), (2, .int x2)] := hl
  refine oh_genQ (fun Q hQ => ?_)
  refine lv_iload_n hx hb dX0_bearsAll_0 rfl (lv_at hl 1 rfl) ?_
  refine lv_bipush (v := 10) hx hb dX0_bearsAll_1 (by decide) ?_
  refine lv_imul hx hb dX0_bearsAll_3 ?_
  refine lv_istore_n (lv' := [(3, .int (x1 * 10)), (0, .ref (a 1)), (1, .int x1), (2, .int x2)]) hx hb dX0_bearsAll_4 rfl hl (by decide) rfl (fun ls hl => ?_)
  refine lv_aload_n hx hb dX0_bearsAll_5 rfl (lv_at hl 1 rfl) ?_
  refine va_get (D := D) (ci := 0) (v := .ref (a 12)) (C := RX0) (T := TX0) (N := 8) hx hb htg ig_0 hown hK hP 1 (oh_wg (by decide) (sX_1 hT)) rfl 2 (by decide) (htg _ q_103) (fun _ h9 => h9) rfl dX0_bearsAll_6 ?_
  refine lv_iload_n hx hb dX0_bearsAll_9 rfl (lv_at hl 0 rfl) ?_
  refine lv_iconst (v := 1) hx hb dX0_bearsAll_10 (by decide) ?_
  refine lv_iadd hx hb dX0_bearsAll_11 ?_
  have n_1 : vp_in ((x1 * 10) + 1) 160 := (rg_in (rg_add (lo := 1) (hi := 151) (rg_mul (lo := 0) (hi := 150) hx1 (rg_c (v := 10) (lo := 10) (hi := 10) (by decide)) (by decide)) (rg_c (v := 1) (lo := 1) (hi := 1) (by decide)) (by decide)) (by decide))
  refine th_iald hx hb hK hP 12 (by decide) (sX_12 hT) n_1 dX0_bearsAll_12 ?_
  refine lv_istore (lv' := [(4, .int (ga (C 12) ((x1 * 10) + 1).toNatClampNeg)), (3, .int (x1 * 10)), (0, .ref (a 1)), (1, .int x1), (2, .int x2)]) hx hb dX0_bearsAll_13 hl (by decide) rfl (fun ls hl => ?_)
  refine lv_aload_n hx hb dX0_bearsAll_15 rfl (lv_at hl 2 rfl) ?_
  refine va_get (D := D) (ci := 0) (v := .ref (a 12)) (C := RX0) (T := TX0) (N := 8) hx hb htg ig_0 hown hK hP 1 (oh_wg (by decide) (sX_1 hT)) rfl 2 (by decide) (htg _ q_103) (fun _ h9 => h9) rfl dX0_bearsAll_16 ?_
  refine lv_iload_n hx hb dX0_bearsAll_19 rfl (lv_at hl 1 rfl) ?_
  refine lv_iconst (v := 4) hx hb dX0_bearsAll_20 (by decide) ?_
  refine lv_iadd hx hb dX0_bearsAll_21 ?_
  have n_2 : vp_in ((x1 * 10) + 4) 160 := (rg_in (rg_add (lo := 4) (hi := 154) (rg_mul (lo := 0) (hi := 150) hx1 (rg_c (v := 10) (lo := 10) (hi := 10) (by decide)) (by decide)) (rg_c (v := 4) (lo := 4) (hi := 4) (by decide)) (by decide)) (by decide))
  refine th_iald hx hb hK hP 12 (by decide) (sX_12 hT) n_2 dX0_bearsAll_22 ?_
  refine lv_istore (lv' := [(5, .int (ga (C 12) ((x1 * 10) + 4).toNatClampNeg)), (4, .int (ga (C 12) ((x1 * 10) + 1).toNatClampNeg)), (3, .int (x1 * 10)), (0, .ref (a 1)), (1, .int x1), (2, .int x2)]) hx hb dX0_bearsAll_23 hl (by decide) rfl (fun ls hl => ?_)
  refine lv_iload hx hb dX0_bearsAll_25 (lv_at hl 1 rfl) ?_
  refine lv_iconst (v := 1) hx hb dX0_bearsAll_27 (by decide) ?_
  refine lv_icmp_eq (tgt := 37) hx hb dX0_bearsAll_28 (by decide) (fun (c_3 : (ga (C 12) ((x1 * 10) + 1).toNatClampNeg) = 1) => ?_) (fun (c_3 : ¬ ((ga (C 12) ((x1 * 10) + 1).toNatClampNeg) = 1)) => ?_)
  · refine lv_iconst (v := 1) hx hb dX0_bearsAll_37 (by decide) ?_
    refine lv_goto (tgt := 42) hx hb dX0_bearsAll_38 (by decide) ?_
    refine lv_istore (lv' := [(6, .int 1), (5, .int (ga (C 12) ((x1 * 10) + 4).toNatClampNeg)), (4, .int (ga (C 12) ((x1 * 10) + 1).toNatClampNeg)), (3, .int (x1 * 10)), (0, .ref (a 1)), (1, .int x1), (2, .int x2)]) hx hb dX0_bearsAll_42 hl (by decide) rfl (fun ls hl => ?_)
    refine lv_aload_n hx hb dX0_bearsAll_44 rfl (lv_at hl 4 rfl) ?_
    refine lv_iload_n hx hb dX0_bearsAll_45 rfl (lv_at hl 3 rfl) ?_
    refine lv_iload hx hb dX0_bearsAll_46 (lv_at hl 0 rfl) ?_
    refine lv_if_eq (tgt := 62) hx hb dX0_bearsAll_48 (by decide) (fun c => absurd c (show ¬ ((1 : Int32) = 0) from by decide)) (fun _ => ?_)
    refine lv_iload hx hb dX0_bearsAll_51 (lv_at hl 1 rfl) ?_
    refine lv_iload hx hb dX0_bearsAll_53 (lv_at hl 1 rfl) ?_
    refine lv_bipush (v := 10) hx hb dX0_bearsAll_55 (by decide) ?_
    refine lv_idiv hx hb dX0_bearsAll_57 (by decide) ?_
    refine lv_iadd hx hb dX0_bearsAll_58 ?_
    refine lv_goto (tgt := 64) hx hb dX0_bearsAll_59 (by decide) ?_
    refine tq_V (As := [.int (x1 * 10), .int ((ga (C 12) ((x1 * 10) + 4).toNatClampNeg) + ((ga (C 12) ((x1 * 10) + 4).toNatClampNeg) / 10))]) (rest := []) (ws := (oh_W 35 a C)) ⟨hx, hb, hml, hown, htg⟩ (c_X0_believed l D E G a C hT (x1 * 10) ((ga (C 12) ((x1 * 10) + 4).toNatClampNeg) + ((ga (C 12) ((x1 * 10) + 4).toNatClampNeg) / 10)) (rg_w (rg_mul (lo := 0) (hi := 150) hx1 (rg_c (v := 10) (lo := 10) (hi := 10) (by decide)) (by decide)) (by decide))) (cwV 2 htg (oh_gV q_397 q_399 q_4 q_67 q_400) rfl rfl rfl pdVX0_believed ⟨Nat.le_of_ble_eq_true rfl, Nat.le_of_ble_eq_true rfl⟩) hK hP hG hS (va_recv hK hP (ci := 0) (q0 := 1) rfl (oh_wg (by decide) (sX_1 hT))) rfl hl.1 rfl (Nat.le_of_ble_eq_true rfl) dX0_bearsAll_64 ⟨Nat.le_of_ble_eq_true rfl, Nat.le_of_ble_eq_true rfl⟩ (fun r_4 hq_5 => ?_)
    refine lv_istore (lv' := [(7, .int r_4), (6, .int 1), (5, .int (ga (C 12) ((x1 * 10) + 4).toNatClampNeg)), (4, .int (ga (C 12) ((x1 * 10) + 1).toNatClampNeg)), (3, .int (x1 * 10)), (0, .ref (a 1)), (1, .int x1), (2, .int x2)]) hx hb dX0_bearsAll_67 hl (by decide) rfl (fun ls hl => ?_)
    refine lv_iload_n hx hb dX0_bearsAll_69 rfl (lv_at hl 7 rfl) ?_
    refine lv_if_eq (tgt := 99) hx hb dX0_bearsAll_70 (by decide) (fun (c_6 : x2 = 0) => ?_) (fun (c_6 : ¬ (x2 = 0)) => ?_)
    · refine lv_iload hx hb dX0_bearsAll_99 (lv_at hl 0 rfl) ?_
      rw [hQ]
      exact W.iret (v := r_4) hx hb hr (fun t ht hW => ⟨r_4, rfl, trivial, ht⟩) (fun q h => by cases h) dX0_bearsAll_101
    · refine lv_aload_n hx hb dX0_bearsAll_73 rfl (lv_at hl 5 rfl) ?_
      refine va_get (D := D) (ci := 0) (v := .ref (a 12)) (C := RX0) (T := TX0) (N := 8) hx hb htg ig_0 hown hK hP 1 (oh_wg (by decide) (sX_1 hT)) rfl 2 (by decide) (htg _ q_103) (fun _ h9 => h9) rfl dX0_bearsAll_74 ?_
      refine lv_iload_n hx hb dX0_bearsAll_77 rfl (lv_at hl 4 rfl) ?_
      refine lv_bipush (v := 8) hx hb dX0_bearsAll_78 (by decide) ?_
      refine lv_iadd hx hb dX0_bearsAll_80 ?_
      have n_7 : vp_in ((x1 * 10) + 8) 160 := (rg_in (rg_add (lo := 8) (hi := 158) (rg_mul (lo := 0) (hi := 150) hx1 (rg_c (v := 10) (lo := 10) (hi := 10) (by decide)) (by decide)) (rg_c (v := 8) (lo := 8) (hi := 8) (by decide)) (by decide)) (by decide))
      refine th_iald hx hb hK hP 12 (by decide) (sX_12 hT) n_7 dX0_bearsAll_81 ?_
      refine lv_if_ne (tgt := 99) hx hb dX0_bearsAll_82 (by decide) (fun (c_8 : ¬ ((ga (C 12) ((x1 * 10) + 8).toNatClampNeg) = 0)) => ?_) (fun (c_8 : (ga (C 12) ((x1 * 10) + 8).toNatClampNeg) = 0) => ?_)
      · refine lv_iload hx hb dX0_bearsAll_99 (lv_at hl 0 rfl) ?_
        rw [hQ]
        exact W.iret (v := r_4) hx hb hr (fun t ht hW => ⟨r_4, rfl, trivial, ht⟩) (fun q h => by cases h) dX0_bearsAll_101
      · refine lv_iload hx hb dX0_bearsAll_85 (lv_at hl 0 rfl) ?_
        refine lv_aload_n hx hb dX0_bearsAll_87 rfl (lv_at hl 5 rfl) ?_
        refine va_get (D := D) (ci := 0) (v := .ref (a 12)) (C := RX0) (T := TX0) (N := 8) hx hb htg ig_0 hown hK hP 1 (oh_wg (by decide) (sX_1 hT)) rfl 2 (by decide) (htg _ q_103) (fun _ h9 => h9) rfl dX0_bearsAll_88 ?_
        refine lv_iload_n hx hb dX0_bearsAll_91 rfl (lv_at hl 4 rfl) ?_
        refine lv_iconst (v := 5) hx hb dX0_bearsAll_92 (by decide) ?_
        refine lv_iadd hx hb dX0_bearsAll_93 ?_
        have n_9 : vp_in ((x1 * 10) + 5) 160 := (rg_in (rg_add (lo := 5) (hi := 155) (rg_mul (lo := 0) (hi := 150) hx1 (rg_c (v := 10) (lo := 10) (hi := 10) (by decide)) (by decide)) (rg_c (v := 5) (lo := 5) (hi := 5) (by decide)) (by decide)) (by decide))
        refine th_iald hx hb hK hP 12 (by decide) (sX_12 hT) n_9 dX0_bearsAll_94 ?_
        refine lv_iadd hx hb dX0_bearsAll_95 ?_
        refine lv_goto (tgt := 101) hx hb dX0_bearsAll_96 (by decide) ?_
        rw [hQ]
        exact W.iret (v := r_4 + (ga (C 12) ((x1 * 10) + 5).toNatClampNeg)) hx hb hr (fun t ht hW => ⟨r_4 + (ga (C 12) ((x1 * 10) + 5).toNatClampNeg), rfl, trivial, ht⟩) (fun q h => by cases h) dX0_bearsAll_101
  · refine lv_iload hx hb dX0_bearsAll_31 (lv_at hl 1 rfl) ?_
    refine lv_iconst (v := 2) hx hb dX0_bearsAll_33 (by decide) ?_
    refine lv_icmp_ne (tgt := 41) hx hb dX0_bearsAll_34 (by decide) (fun (c_10 : ¬ ((ga (C 12) ((x1 * 10) + 1).toNatClampNeg) = 2)) => ?_) (fun (c_10 : (ga (C 12) ((x1 * 10) + 1).toNatClampNeg) = 2) => ?_)
    · refine lv_iconst (v := 0) hx hb dX0_bearsAll_41 (by decide) ?_
      refine lv_istore (lv' := [(6, .int 0), (5, .int (ga (C 12) ((x1 * 10) + 4).toNatClampNeg)), (4, .int (ga (C 12) ((x1 * 10) + 1).toNatClampNeg)), (3, .int (x1 * 10)), (0, .ref (a 1)), (1, .int x1), (2, .int x2)]) hx hb dX0_bearsAll_42 hl (by decide) rfl (fun ls hl => ?_)
      refine lv_aload_n hx hb dX0_bearsAll_44 rfl (lv_at hl 4 rfl) ?_
      refine lv_iload_n hx hb dX0_bearsAll_45 rfl (lv_at hl 3 rfl) ?_
      refine lv_iload hx hb dX0_bearsAll_46 (lv_at hl 0 rfl) ?_
      refine lv_if_eq (tgt := 62) hx hb dX0_bearsAll_48 (by decide) (fun _ => ?_) (fun c => absurd (show (0 : Int32) = 0 from by decide) c)
      refine lv_iload hx hb dX0_bearsAll_62 (lv_at hl 1 rfl) ?_
      refine tq_V (As := [.int (x1 * 10), .int (ga (C 12) ((x1 * 10) + 4).toNatClampNeg)]) (rest := []) (ws := (oh_W 35 a C)) ⟨hx, hb, hml, hown, htg⟩ (c_X0_believed l D E G a C hT (x1 * 10) (ga (C 12) ((x1 * 10) + 4).toNatClampNeg) (rg_w (rg_mul (lo := 0) (hi := 150) hx1 (rg_c (v := 10) (lo := 10) (hi := 10) (by decide)) (by decide)) (by decide))) (cwV 2 htg (oh_gV q_397 q_399 q_4 q_67 q_400) rfl rfl rfl pdVX0_believed ⟨Nat.le_of_ble_eq_true rfl, Nat.le_of_ble_eq_true rfl⟩) hK hP hG hS (va_recv hK hP (ci := 0) (q0 := 1) rfl (oh_wg (by decide) (sX_1 hT))) rfl hl.1 rfl (Nat.le_of_ble_eq_true rfl) dX0_bearsAll_64 ⟨Nat.le_of_ble_eq_true rfl, Nat.le_of_ble_eq_true rfl⟩ (fun r_11 hq_12 => ?_)
      refine lv_istore (lv' := [(7, .int r_11), (6, .int 0), (5, .int (ga (C 12) ((x1 * 10) + 4).toNatClampNeg)), (4, .int (ga (C 12) ((x1 * 10) + 1).toNatClampNeg)), (3, .int (x1 * 10)), (0, .ref (a 1)), (1, .int x1), (2, .int x2)]) hx hb dX0_bearsAll_67 hl (by decide) rfl (fun ls hl => ?_)
      refine lv_iload_n hx hb dX0_bearsAll_69 rfl (lv_at hl 7 rfl) ?_
      refine lv_if_eq (tgt := 99) hx hb dX0_bearsAll_70 (by decide) (fun (c_13 : x2 = 0) => ?_) (fun (c_13 : ¬ (x2 = 0)) => ?_)
      · refine lv_iload hx hb dX0_bearsAll_99 (lv_at hl 0 rfl) ?_
        rw [hQ]
        exact W.iret (v := r_11) hx hb hr (fun t ht hW => ⟨r_11, rfl, trivial, ht⟩) (fun q h => by cases h) dX0_bearsAll_101
      · refine lv_aload_n hx hb dX0_bearsAll_73 rfl (lv_at hl 5 rfl) ?_
        refine va_get (D := D) (ci := 0) (v := .ref (a 12)) (C := RX0) (T := TX0) (N := 8) hx hb htg ig_0 hown hK hP 1 (oh_wg (by decide) (sX_1 hT)) rfl 2 (by decide) (htg _ q_103) (fun _ h9 => h9) rfl dX0_bearsAll_74 ?_
        refine lv_iload_n hx hb dX0_bearsAll_77 rfl (lv_at hl 4 rfl) ?_
        refine lv_bipush (v := 8) hx hb dX0_bearsAll_78 (by decide) ?_
        refine lv_iadd hx hb dX0_bearsAll_80 ?_
        have n_14 : vp_in ((x1 * 10) + 8) 160 := (rg_in (rg_add (lo := 8) (hi := 158) (rg_mul (lo := 0) (hi := 150) hx1 (rg_c (v := 10) (lo := 10) (hi := 10) (by decide)) (by decide)) (rg_c (v := 8) (lo := 8) (hi := 8) (by decide)) (by decide)) (by decide))
        refine th_iald hx hb hK hP 12 (by decide) (sX_12 hT) n_14 dX0_bearsAll_81 ?_
        refine lv_if_ne (tgt := 99) hx hb dX0_bearsAll_82 (by decide) (fun (c_15 : ¬ ((ga (C 12) ((x1 * 10) + 8).toNatClampNeg) = 0)) => ?_) (fun (c_15 : (ga (C 12) ((x1 * 10) + 8).toNatClampNeg) = 0) => ?_)
        · refine lv_iload hx hb dX0_bearsAll_99 (lv_at hl 0 rfl) ?_
          rw [hQ]
          exact W.iret (v := r_11) hx hb hr (fun t ht hW => ⟨r_11, rfl, trivial, ht⟩) (fun q h => by cases h) dX0_bearsAll_101
        · refine lv_iload hx hb dX0_bearsAll_85 (lv_at hl 0 rfl) ?_
          refine lv_aload_n hx hb dX0_bearsAll_87 rfl (lv_at hl 5 rfl) ?_
          refine va_get (D := D) (ci := 0) (v := .ref (a 12)) (C := RX0) (T := TX0) (N := 8) hx hb htg ig_0 hown hK hP 1 (oh_wg (by decide) (sX_1 hT)) rfl 2 (by decide) (htg _ q_103) (fun _ h9 => h9) rfl dX0_bearsAll_88 ?_
          refine lv_iload_n hx hb dX0_bearsAll_91 rfl (lv_at hl 4 rfl) ?_
          refine lv_iconst (v := 5) hx hb dX0_bearsAll_92 (by decide) ?_
          refine lv_iadd hx hb dX0_bearsAll_93 ?_
          have n_16 : vp_in ((x1 * 10) + 5) 160 := (rg_in (rg_add (lo := 5) (hi := 155) (rg_mul (lo := 0) (hi := 150) hx1 (rg_c (v := 10) (lo := 10) (hi := 10) (by decide)) (by decide)) (rg_c (v := 5) (lo := 5) (hi := 5) (by decide)) (by decide)) (by decide))
          refine th_iald hx hb hK hP 12 (by decide) (sX_12 hT) n_16 dX0_bearsAll_94 ?_
          refine lv_iadd hx hb dX0_bearsAll_95 ?_
          refine lv_goto (tgt := 101) hx hb dX0_bearsAll_96 (by decide) ?_
          rw [hQ]
          exact W.iret (v := r_11 + (ga (C 12) ((x1 * 10) + 5).toNatClampNeg)) hx hb hr (fun t ht hW => ⟨r_11 + (ga (C 12) ((x1 * 10) + 5).toNatClampNeg), rfl, trivial, ht⟩) (fun q h => by cases h) dX0_bearsAll_101
    · refine lv_iconst (v := 1) hx hb dX0_bearsAll_37 (by decide) ?_
      refine lv_goto (tgt := 42) hx hb dX0_bearsAll_38 (by decide) ?_
      refine lv_istore (lv' := [(6, .int 1), (5, .int (ga (C 12) ((x1 * 10) + 4).toNatClampNeg)), (4, .int (ga (C 12) ((x1 * 10) + 1).toNatClampNeg)), (3, .int (x1 * 10)), (0, .ref (a 1)), (1, .int x1), (2, .int x2)]) hx hb dX0_bearsAll_42 hl (by decide) rfl (fun ls hl => ?_)
      refine lv_aload_n hx hb dX0_bearsAll_44 rfl (lv_at hl 4 rfl) ?_
      refine lv_iload_n hx hb dX0_bearsAll_45 rfl (lv_at hl 3 rfl) ?_
      refine lv_iload hx hb dX0_bearsAll_46 (lv_at hl 0 rfl) ?_
      refine lv_if_eq (tgt := 62) hx hb dX0_bearsAll_48 (by decide) (fun c => absurd c (show ¬ ((1 : Int32) = 0) from by decide)) (fun _ => ?_)
      refine lv_iload hx hb dX0_bearsAll_51 (lv_at hl 1 rfl) ?_
      refine lv_iload hx hb dX0_bearsAll_53 (lv_at hl 1 rfl) ?_
      refine lv_bipush (v := 10) hx hb dX0_bearsAll_55 (by decide) ?_
      refine lv_idiv hx hb dX0_bearsAll_57 (by decide) ?_
      refine lv_iadd hx hb dX0_bearsAll_58 ?_
      refine lv_goto (tgt := 64) hx hb dX0_bearsAll_59 (by decide) ?_
      refine tq_V (As := [.int (x1 * 10), .int ((ga (C 12) ((x1 * 10) + 4).toNatClampNeg) + ((ga (C 12) ((x1 * 10) + 4).toNatClampNeg) / 10))]) (rest := []) (ws := (oh_W 35 a C)) ⟨hx, hb, hml, hown, htg⟩ (c_X0_believed l D E G a C hT (x1 * 10) ((ga (C 12) ((x1 * 10) + 4).toNatClampNeg) + ((ga (C 12) ((x1 * 10) + 4).toNatClampNeg) / 10)) (rg_w (rg_mul (lo := 0) (hi := 150) hx1 (rg_c (v := 10) (lo := 10) (hi := 10) (by decide)) (by decide)) (by decide))) (cwV 2 htg (oh_gV q_397 q_399 q_4 q_67 q_400) rfl rfl rfl pdVX0_believed ⟨Nat.le_of_ble_eq_true rfl, Nat.le_of_ble_eq_true rfl⟩) hK hP hG hS (va_recv hK hP (ci := 0) (q0 := 1) rfl (oh_wg (by decide) (sX_1 hT))) rfl hl.1 rfl (Nat.le_of_ble_eq_true rfl) dX0_bearsAll_64 ⟨Nat.le_of_ble_eq_true rfl, Nat.le_of_ble_eq_true rfl⟩ (fun r_17 hq_18 => ?_)
      refine lv_istore (lv' := [(7, .int r_17), (6, .int 1), (5, .int (ga (C 12) ((x1 * 10) + 4).toNatClampNeg)), (4, .int (ga (C 12) ((x1 * 10) + 1).toNatClampNeg)), (3, .int (x1 * 10)), (0, .ref (a 1)), (1, .int x1), (2, .int x2)]) hx hb dX0_bearsAll_67 hl (by decide) rfl (fun ls hl => ?_)
      refine lv_iload_n hx hb dX0_bearsAll_69 rfl (lv_at hl 7 rfl) ?_
      refine lv_if_eq (tgt := 99) hx hb dX0_bearsAll_70 (by decide) (fun (c_19 : x2 = 0) => ?_) (fun (c_19 : ¬ (x2 = 0)) => ?_)
      · refine lv_iload hx hb dX0_bearsAll_99 (lv_at hl 0 rfl) ?_
        rw [hQ]
        exact W.iret (v := r_17) hx hb hr (fun t ht hW => ⟨r_17, rfl, trivial, ht⟩) (fun q h => by cases h) dX0_bearsAll_101
      · refine lv_aload_n hx hb dX0_bearsAll_73 rfl (lv_at hl 5 rfl) ?_
        refine va_get (D := D) (ci := 0) (v := .ref (a 12)) (C := RX0) (T := TX0) (N := 8) hx hb htg ig_0 hown hK hP 1 (oh_wg (by decide) (sX_1 hT)) rfl 2 (by decide) (htg _ q_103) (fun _ h9 => h9) rfl dX0_bearsAll_74 ?_
        refine lv_iload_n hx hb dX0_bearsAll_77 rfl (lv_at hl 4 rfl) ?_
        refine lv_bipush (v := 8) hx hb dX0_bearsAll_78 (by decide) ?_
        refine lv_iadd hx hb dX0_bearsAll_80 ?_
        have n_20 : vp_in ((x1 * 10) + 8) 160 := (rg_in (rg_add (lo := 8) (hi := 158) (rg_mul (lo := 0) (hi := 150) hx1 (rg_c (v := 10) (lo := 10) (hi := 10) (by decide)) (by decide)) (rg_c (v := 8) (lo := 8) (hi := 8) (by decide)) (by decide)) (by decide))
        refine th_iald hx hb hK hP 12 (by decide) (sX_12 hT) n_20 dX0_bearsAll_81 ?_
        refine lv_if_ne (tgt := 99) hx hb dX0_bearsAll_82 (by decide) (fun (c_21 : ¬ ((ga (C 12) ((x1 * 10) + 8).toNatClampNeg) = 0)) => ?_) (fun (c_21 : (ga (C 12) ((x1 * 10) + 8).toNatClampNeg) = 0) => ?_)
        · refine lv_iload hx hb dX0_bearsAll_99 (lv_at hl 0 rfl) ?_
          rw [hQ]
          exact W.iret (v := r_17) hx hb hr (fun t ht hW => ⟨r_17, rfl, trivial, ht⟩) (fun q h => by cases h) dX0_bearsAll_101
        · refine lv_iload hx hb dX0_bearsAll_85 (lv_at hl 0 rfl) ?_
          refine lv_aload_n hx hb dX0_bearsAll_87 rfl (lv_at hl 5 rfl) ?_
          refine va_get (D := D) (ci := 0) (v := .ref (a 12)) (C := RX0) (T := TX0) (N := 8) hx hb htg ig_0 hown hK hP 1 (oh_wg (by decide) (sX_1 hT)) rfl 2 (by decide) (htg _ q_103) (fun _ h9 => h9) rfl dX0_bearsAll_88 ?_
          refine lv_iload_n hx hb dX0_bearsAll_91 rfl (lv_at hl 4 rfl) ?_
          refine lv_iconst (v := 5) hx hb dX0_bearsAll_92 (by decide) ?_
          refine lv_iadd hx hb dX0_bearsAll_93 ?_
          have n_22 : vp_in ((x1 * 10) + 5) 160 := (rg_in (rg_add (lo := 5) (hi := 155) (rg_mul (lo := 0) (hi := 150) hx1 (rg_c (v := 10) (lo := 10) (hi := 10) (by decide)) (by decide)) (rg_c (v := 5) (lo := 5) (hi := 5) (by decide)) (by decide)) (by decide))
          refine th_iald hx hb hK hP 12 (by decide) (sX_12 hT) n_22 dX0_bearsAll_94 ?_
          refine lv_iadd hx hb dX0_bearsAll_95 ?_
          refine lv_goto (tgt := 101) hx hb dX0_bearsAll_96 (by decide) ?_
          rw [hQ]
          exact W.iret (v := r_17 + (ga (C 12) ((x1 * 10) + 5).toNatClampNeg)) hx hb hr (fun t ht hW => ⟨r_17 + (ga (C 12) ((x1 * 10) + 5).toNatClampNeg), rfl, trivial, ht⟩) (fun q h => by cases h) dX0_bearsAll_101

set_option maxHeartbeats 4000000 in
set_option maxRecDepth 100000 in
theorem c_X0_startTrip (l : Launch) (D : va_G) (E : Nat → ClassId) (G : Nat → Nat) (sz : Nat) (a : Nat → Nat) (C : Nat → va_E) (hT : TyX a E C) (x1 : Int32) (x2 : Int32) (x3 : Int32) (x4 : Int32) (x5 : Int32) (hx1 : rg x1 0 4) (hx3 : rg x3 0 15) (hx4 : rg x4 0 15) : Met l yX0_startTrip (oh_w yX0_startTrip cX0_startTrip 6 none) ({ frames := 0, cells := 0, slots := 0, locals := 0 }) (oh_Pm D E G [.ref (a 1), .int x1, .int x2, .int x3, .int x4, .int x5] (oh_W 35 a C) sz) (va_Qv (fun (u : Nat → va_E) => TyX a E u ∧ fr [(1, 2), (16, 17)] [] C u ∧ True) (oh_B D (va_A (oh_W 35 a C) sz) (fun u => oh_W 35 a u)) (va_A (oh_W 35 a C) sz)) 0 0 (va_A (oh_W 35 a C) sz) := by
  refine Met.ofW (cc := cX0_startTrip) (maxL := 6) (ret := none) (by decide) rfl ?_
  intro p e s m args below meth c s₁ B hml hv
  obtain ⟨rfl, hsz, hP, hK, hD0, hG⟩ := hv
  have hx := B.exec
  have hb := B.bytes
  have hr := B.returns
  have hts := atoms_spec (ws := (oh_w yX0_startTrip cX0_startTrip 6 none)) B.pre
  have htg : ∀ w ∈ oh_t, w.before _ s = true := fun w h => hts w (List.mem_cons_of_mem _ h)
  have hown : s.vm.findClass RX0 = some m.cls := findClass_of_methodNamed B.named
  have hlocks := B.notSynchronized
  have hT0 := hT
  subst hsz
  have hD := hD0.self (sz := s.heap.size)
  generalize hAe : va_A (oh_W 35 a C) s.heap.size = A at hD hG ⊢
  have hA : ∀ q : Nat, s.heap.size ≤ q → A q := fun q h => by rw [← hAe]; exact Or.inr h
  have hS : va_S A s.heap s.heap [] := va_S.rf
  have hF : fr [(1, 2), (16, 17)] [] C C := fr_rf
  have hl := lv_entry ([.ref (a 1), .int x1, .int x2, .int x3, .int x4, .int x5]) (n := 6) (Nat.le_of_ble_eq_true rfl)
  rw [lg_entry_eq]
  generalize (lg_sl ([.ref (a 1), .int x1, .int x2, .int x3, .int x4, .int x5]) ++ List.replicate (6 - (lg_sl ([.ref (a 1), .int x1, .int x2, .int x3, .int x4, .int x5])).length) Slot.unset).toArray = ls at hl ⊢
  have hl : lv_has ls 6 [(0, .ref (a 1)), (1, .int x1), (2, .int x2), (3, .int x3), (4, .int x4), (5, .int x5)] := hl
  refine oh_genQ (fun Q hQ => ?_)
  refine lv_aload_n hx hb dX0_startTrip_0 rfl (lv_at hl 0 rfl) ?_
  refine va_get (D := D) (ci := 0) (v := .ref (a 16)) (C := RX0) (T := TX0) (N := 8) hx hb htg ig_0 hown hK hP 1 (oh_wg (by decide) (sX_1 hT)) rfl 6 (by decide) (htg _ q_111) (fun _ h9 => h9) rfl dX0_startTrip_1 ?_
  refine lv_iconst (v := 0) hx hb dX0_startTrip_4 (by decide) ?_
  refine lv_iload_n hx hb dX0_startTrip_5 rfl (lv_at hl 3 rfl) ?_
  refine th_iast (T := TyX a E) (Rl := fr [(1, 2), (16, 17)] [] C) hx hb hK hP hD hS 16 (by decide) (sX_16 hT) (rg_in (rg_c (v := 0) (lo := 0) (hi := 0) (by decide)) (by decide)) (hT.up 16 (tA_upd (tX_16 hT) (tA_stc (show _ = 0 by decide) hx3 (by decide)))) (fr_st hF (by decide) (by decide)) dX0_startTrip_6 (fun C_1 H locs e_2 hT hF hP hD hS => ?_)
  have t_3 := hT
  refine lv_aload_n hx hb dX0_startTrip_7 rfl (lv_at hl 0 rfl) ?_
  refine va_get (D := D) (ci := 0) (v := .ref (a 16)) (C := RX0) (T := TX0) (N := 8) hx hb htg ig_0 hown hK hP 1 (oh_wg (by decide) (sX_1 hT)) rfl 6 (by decide) (htg _ q_111) (fun _ h9 => h9) rfl dX0_startTrip_8 ?_
  refine lv_iconst (v := 1) hx hb dX0_startTrip_11 (by decide) ?_
  refine lv_iload hx hb dX0_startTrip_12 (lv_at hl 4 rfl) ?_
  refine th_iast (T := TyX a E) (Rl := fr [(1, 2), (16, 17)] [] C) hx hb hK hP hD hS 16 (by decide) (sX_16 hT) (rg_in (rg_c (v := 1) (lo := 1) (hi := 1) (by decide)) (by decide)) (hT.up 16 (tA_upd (tX_16 hT) (tA_stc (show _ = 1 by decide) hx4 (by decide)))) (fr_st hF (by decide) (by decide)) dX0_startTrip_14 (fun C_4 H locs e_5 hT hF hP hD hS => ?_)
  have t_6 := hT
  refine lv_aload_n hx hb dX0_startTrip_15 rfl (lv_at hl 0 rfl) ?_
  refine va_get (D := D) (ci := 0) (v := .ref (a 16)) (C := RX0) (T := TX0) (N := 8) hx hb htg ig_0 hown hK hP 1 (oh_wg (by decide) (sX_1 hT)) rfl 6 (by decide) (htg _ q_111) (fun _ h9 => h9) rfl dX0_startTrip_16 ?_
  refine lv_iconst (v := 2) hx hb dX0_startTrip_19 (by decide) ?_
  refine lv_iload hx hb dX0_startTrip_20 (lv_at hl 5 rfl) ?_
  refine th_iast (T := TyX a E) (Rl := fr [(1, 2), (16, 17)] [] C) hx hb hK hP hD hS 16 (by decide) (sX_16 hT) (rg_in (rg_c (v := 2) (lo := 2) (hi := 2) (by decide)) (by decide)) (hT.up 16 (tA_upd (tX_16 hT) (tA_stc (show _ = 2 by decide) (rg_any _) (by decide)))) (fr_st hF (by decide) (by decide)) dX0_startTrip_22 (fun C_7 H locs e_8 hT hF hP hD hS => ?_)
  have t_9 := hT
  refine lv_aload_n hx hb dX0_startTrip_23 rfl (lv_at hl 0 rfl) ?_
  refine va_get (D := D) (ci := 0) (v := .ref (a 16)) (C := RX0) (T := TX0) (N := 8) hx hb htg ig_0 hown hK hP 1 (oh_wg (by decide) (sX_1 hT)) rfl 6 (by decide) (htg _ q_111) (fun _ h9 => h9) rfl dX0_startTrip_24 ?_
  refine lv_iconst (v := 3) hx hb dX0_startTrip_27 (by decide) ?_
  refine lv_iconst (v := 0) hx hb dX0_startTrip_28 (by decide) ?_
  refine th_iast (T := TyX a E) (Rl := fr [(1, 2), (16, 17)] [] C) hx hb hK hP hD hS 16 (by decide) (sX_16 hT) (rg_in (rg_c (v := 3) (lo := 3) (hi := 3) (by decide)) (by decide)) (hT.up 16 (tA_upd (tX_16 hT) (tA_stc (show _ = 3 by decide) (rg_c (v := 0) (lo := 0) (hi := 0) (by decide)) (by decide)))) (fr_st hF (by decide) (by decide)) dX0_startTrip_29 (fun C_10 H locs e_11 hT hF hP hD hS => ?_)
  have t_12 := hT
  refine lv_aload_n hx hb dX0_startTrip_30 rfl (lv_at hl 0 rfl) ?_
  refine va_get (D := D) (ci := 0) (v := .ref (a 16)) (C := RX0) (T := TX0) (N := 8) hx hb htg ig_0 hown hK hP 1 (oh_wg (by decide) (sX_1 hT)) rfl 6 (by decide) (htg _ q_111) (fun _ h9 => h9) rfl dX0_startTrip_31 ?_
  refine lv_iconst (v := 4) hx hb dX0_startTrip_34 (by decide) ?_
  refine lv_iconst (v := 0) hx hb dX0_startTrip_35 (by decide) ?_
  refine th_iast (T := TyX a E) (Rl := fr [(1, 2), (16, 17)] [] C) hx hb hK hP hD hS 16 (by decide) (sX_16 hT) (rg_in (rg_c (v := 4) (lo := 4) (hi := 4) (by decide)) (by decide)) (hT.up 16 (tA_upd (tX_16 hT) (tA_stc (show _ = 4 by decide) (rg_c (v := 0) (lo := 0) (hi := 0) (by decide)) (by decide)))) (fr_st hF (by decide) (by decide)) dX0_startTrip_36 (fun C_13 H locs e_14 hT hF hP hD hS => ?_)
  have t_15 := hT
  refine lv_aload_n hx hb dX0_startTrip_37 rfl (lv_at hl 0 rfl) ?_
  refine va_get (D := D) (ci := 0) (v := .ref (a 16)) (C := RX0) (T := TX0) (N := 8) hx hb htg ig_0 hown hK hP 1 (oh_wg (by decide) (sX_1 hT)) rfl 6 (by decide) (htg _ q_111) (fun _ h9 => h9) rfl dX0_startTrip_38 ?_
  refine lv_iconst (v := 5) hx hb dX0_startTrip_41 (by decide) ?_
  refine lv_iload_n hx hb dX0_startTrip_42 rfl (lv_at hl 1 rfl) ?_
  refine th_iast (T := TyX a E) (Rl := fr [(1, 2), (16, 17)] [] C) hx hb hK hP hD hS 16 (by decide) (sX_16 hT) (rg_in (rg_c (v := 5) (lo := 5) (hi := 5) (by decide)) (by decide)) (hT.up 16 (tA_upd (tX_16 hT) (tA_stc (show _ = 5 by decide) hx1 (by decide)))) (fr_st hF (by decide) (by decide)) dX0_startTrip_43 (fun C_16 H locs e_17 hT hF hP hD hS => ?_)
  have t_18 := hT
  refine lv_aload_n hx hb dX0_startTrip_44 rfl (lv_at hl 0 rfl) ?_
  refine va_get (D := D) (ci := 0) (v := .ref (a 16)) (C := RX0) (T := TX0) (N := 8) hx hb htg ig_0 hown hK hP 1 (oh_wg (by decide) (sX_1 hT)) rfl 6 (by decide) (htg _ q_111) (fun _ h9 => h9) rfl dX0_startTrip_45 ?_
  refine lv_bipush (v := 6) hx hb dX0_startTrip_48 (by decide) ?_
  refine lv_iload_n hx hb dX0_startTrip_50 rfl (lv_at hl 2 rfl) ?_
  refine th_iast (T := TyX a E) (Rl := fr [(1, 2), (16, 17)] [] C) hx hb hK hP hD hS 16 (by decide) (sX_16 hT) (rg_in (rg_c (v := 6) (lo := 6) (hi := 6) (by decide)) (by decide)) (hT.up 16 (tA_upd (tX_16 hT) (tA_stc (show _ = 6 by decide) (rg_any _) (by decide)))) (fr_st hF (by decide) (by decide)) dX0_startTrip_51 (fun C_19 H locs e_20 hT hF hP hD hS => ?_)
  have t_21 := hT
  refine lv_aload_n hx hb dX0_startTrip_52 rfl (lv_at hl 0 rfl) ?_
  refine lv_iconst (v := 1) hx hb dX0_startTrip_53 (by decide) ?_
  refine th_put (Tp := TyX a E) (Rl := fr [(1, 2), (16, 17)] [] C) (ci := 0) (v := .int 1) (ty := .boolean) (CC := RX0) (T := TX0) (N := 8) hx hb htg ig_0 tyX0 tyX0_ok nmX0 hown hK hP hD hS 1 (by decide) (sX_1 hT) rfl 7 (by decide) (htg _ q_113) (fun _ h9 => h9) rfl (by decide +kernel) (by decide) (by decide) (Nat.le_of_ble_eq_true rfl) (hT.up 1 ⟨rfl, (rg_w (rg_c (v := 1) (lo := 1) (hi := 1) (by decide)) (by decide))⟩) (fr_st hF (by decide) (by decide)) dX0_startTrip_54 (fun C_22 H locs e_23 hT hF hP hD hS => ?_)
  have t_24 := hT
  rw [hQ]
  exact W.vret hx hb hr (fun t ht hW => ⟨⟨C_22, rfl, ⟨hT, hF, trivial⟩, ⟨by rw [ht]; exact hP, hD⟩⟩, hS.F ht⟩) hS.2.2 dX0_startTrip_57

set_option maxHeartbeats 4000000 in
set_option maxRecDepth 100000 in
theorem c_X1_take (l : Launch) (D : va_G) (E : Nat → ClassId) (G : Nat → Nat) (sz : Nat) (a : Nat → Nat) (C : Nat → va_E) (hT : TyX a E C) (x1 : Int32) (x2 : Int32) (hx1 : rg x1 0 4) : Met l yX1_take (oh_w yX1_take cX1_take 5 none) ({ frames := 2, cells := 0, slots := 0, locals := 43 }) (oh_Pm D E G [.ref (a 9), .ref (a 1), .int x1, .int x2] (oh_W 35 a C) sz) (va_Qv (fun (u : Nat → va_E) => TyX a E u ∧ fr [(9, 10)] [] C u ∧ True) (oh_B D (va_A (oh_W 35 a C) sz) (fun u => oh_W 35 a u)) (va_A (oh_W 35 a C) sz)) 0 0 (va_A (oh_W 35 a C) sz) := by
  refine Met.ofW (cc := cX1_take) (maxL := 5) (ret := none) (by decide) rfl ?_
  intro p e s m args below meth c s₁ B hml hv
  obtain ⟨rfl, hsz, hP, hK, hD0, hG⟩ := hv
  have hx := B.exec
  have hb := B.bytes
  have hr := B.returns
  have hts := atoms_spec (ws := (oh_w yX1_take cX1_take 5 none)) B.pre
  have htg : ∀ w ∈ oh_t, w.before _ s = true := fun w h => hts w (List.mem_cons_of_mem _ h)
  have hown : s.vm.findClass RX1 = some m.cls := findClass_of_methodNamed B.named
  have hlocks := B.notSynchronized
  have hT0 := hT
  subst hsz
  have hD := hD0.self (sz := s.heap.size)
  generalize hAe : va_A (oh_W 35 a C) s.heap.size = A at hD hG ⊢
  have hA : ∀ q : Nat, s.heap.size ≤ q → A q := fun q h => by rw [← hAe]; exact Or.inr h
  have hS : va_S A s.heap s.heap [] := va_S.rf
  have hF : fr [(9, 10)] [] C C := fr_rf
  have hl := lv_entry ([.ref (a 9), .ref (a 1), .int x1, .int x2]) (n := 5) (Nat.le_of_ble_eq_true rfl)
  rw [lg_entry_eq]
  generalize (lg_sl ([.ref (a 9), .ref (a 1), .int x1, .int x2]) ++ List.replicate (5 - (lg_sl ([.ref (a 9), .ref (a 1), .int x1, .int x2])).length) Slot.unset).toArray = ls at hl ⊢
  have hl : lv_has ls 5 [(0, .ref (a 9)), (1, .ref (a 1)), (2, .int x1), (3, .int x2)] := hl
  refine oh_genQ (fun Q hQ => ?_)
  refine lv_aload_n hx hb dX1_take_0 rfl (lv_at hl 0 rfl) ?_
  refine lv_aload_n hx hb dX1_take_1 rfl (lv_at hl 1 rfl) ?_
  refine lv_iload_n hx hb dX1_take_2 rfl (lv_at hl 2 rfl) ?_
  refine lv_iconst (v := 0) hx hb dX1_take_3 (by decide) ?_
  refine tq_V (As := [.int x1, .int 0]) (rest := [.ref (a 9)]) (ws := (oh_W 35 a C)) ⟨hx, hb, hml, hown, htg⟩ (c_X0_ofWaggon l D E G a C hT x1 (0 : Int32) (rg_w hx1 (by decide)) (rg_w (rg_c (v := 0) (lo := 0) (hi := 0) (by decide)) (by decide))) (cwV 2 htg (oh_gV q_707 q_688 q_689 q_67 q_690) rfl rfl rfl pdVX0_ofWaggon ⟨Nat.le_of_ble_eq_true rfl, Nat.le_of_ble_eq_true rfl⟩) hK hP hG hS (va_recv hK hP (ci := 0) (q0 := 1) rfl (oh_wg (by decide) (sX_1 hT))) rfl hl.1 rfl (Nat.le_of_ble_eq_true rfl) dX1_take_4 ⟨Nat.le_of_ble_eq_true rfl, Nat.le_of_ble_eq_true rfl⟩ (fun r_1 hq_2 => ?_)
  subst hq_2
  refine th_put (Tp := TyX a E) (Rl := fr [(9, 10)] [] C) (ci := 1) (v := .int (ga (C 13) ((x1 * 3) + 0).toNatClampNeg)) (ty := .int) (CC := RX1) (T := TX1) (N := 5) hx hb htg ig_1 tyX1 tyX1_ok nmX1 hown hK hP hD hS 9 (by decide) (sX_9 hT) rfl 0 (by decide) (htg _ q_145) (fun _ h9 => h9) rfl (by decide +kernel) rfl rfl (Nat.le_of_ble_eq_true rfl) (hT.up 9 rfl) (fr_st hF (by decide) (by decide)) dX1_take_7 (fun C_3 H locs e_4 hT hF hP hD hS => ?_)
  have t_5 := hT
  refine lv_aload_n hx hb dX1_take_10 rfl (lv_at hl 0 rfl) ?_
  refine lv_aload_n hx hb dX1_take_11 rfl (lv_at hl 1 rfl) ?_
  refine lv_iload_n hx hb dX1_take_12 rfl (lv_at hl 2 rfl) ?_
  refine lv_iconst (v := 1) hx hb dX1_take_13 (by decide) ?_
  refine tq_V (As := [.int x1, .int 1]) (rest := [.ref (a 9)]) (ws := (oh_W 35 a C_3)) ⟨hx, hb, hml, hown, htg⟩ (c_X0_ofWaggon l D E G a C_3 hT x1 (1 : Int32) (rg_w hx1 (by decide)) (rg_w (rg_c (v := 1) (lo := 1) (hi := 1) (by decide)) (by decide))) (cwV 2 htg (oh_gV q_707 q_688 q_689 q_67 q_690) rfl rfl rfl pdVX0_ofWaggon ⟨Nat.le_of_ble_eq_true rfl, Nat.le_of_ble_eq_true rfl⟩) hK hP hG hS (va_recv hK hP (ci := 0) (q0 := 1) rfl (oh_wg (by decide) (sX_1 hT))) rfl hl.1 rfl (Nat.le_of_ble_eq_true rfl) dX1_take_14 ⟨Nat.le_of_ble_eq_true rfl, Nat.le_of_ble_eq_true rfl⟩ (fun r_6 hq_7 => ?_)
  subst hq_7
  refine th_put (Tp := TyX a E) (Rl := fr [(9, 10)] [] C) (ci := 1) (v := .int (ga (C_3 13) ((x1 * 3) + 1).toNatClampNeg)) (ty := .int) (CC := RX1) (T := TX1) (N := 5) hx hb htg ig_1 tyX1 tyX1_ok nmX1 hown hK hP hD hS 9 (by decide) (sX_9 hT) rfl 1 (by decide) (htg _ q_146) (fun _ h9 => h9) rfl (by decide +kernel) rfl rfl (Nat.le_of_ble_eq_true rfl) (hT.up 9 rfl) (fr_st hF (by decide) (by decide)) dX1_take_17 (fun C_8 H locs e_9 hT hF hP hD hS => ?_)
  have t_10 := hT
  refine lv_aload_n hx hb dX1_take_20 rfl (lv_at hl 0 rfl) ?_
  refine lv_aload_n hx hb dX1_take_21 rfl (lv_at hl 1 rfl) ?_
  refine lv_iload_n hx hb dX1_take_22 rfl (lv_at hl 2 rfl) ?_
  refine tq_V (As := [.int x1]) (rest := [.ref (a 9)]) (ws := (oh_W 35 a C_8)) ⟨hx, hb, hml, hown, htg⟩ (c_X0_waggonLength l D E G a C_8 hT x1 (rg_w hx1 (by decide))) (cwV 1 htg (oh_gV q_708 q_684 q_685 q_67 q_686) rfl rfl rfl pdVX0_waggonLength ⟨Nat.le_of_ble_eq_true rfl, Nat.le_of_ble_eq_true rfl⟩) hK hP hG hS (va_recv hK hP (ci := 0) (q0 := 1) rfl (oh_wg (by decide) (sX_1 hT))) rfl hl.1 rfl (Nat.le_of_ble_eq_true rfl) dX1_take_23 ⟨Nat.le_of_ble_eq_true rfl, Nat.le_of_ble_eq_true rfl⟩ (fun r_11 hq_12 => ?_)
  refine th_put (Tp := TyX a E) (Rl := fr [(9, 10)] [] C) (ci := 1) (v := .int r_11) (ty := .int) (CC := RX1) (T := TX1) (N := 5) hx hb htg ig_1 tyX1 tyX1_ok nmX1 hown hK hP hD hS 9 (by decide) (sX_9 hT) rfl 2 (by decide) (htg _ q_147) (fun _ h9 => h9) rfl (by decide +kernel) rfl rfl (Nat.le_of_ble_eq_true rfl) (hT.up 9 rfl) (fr_st hF (by decide) (by decide)) dX1_take_26 (fun C_13 H locs e_14 hT hF hP hD hS => ?_)
  have t_15 := hT
  refine lv_aload_n hx hb dX1_take_29 rfl (lv_at hl 1 rfl) ?_
  refine lv_iload_n hx hb dX1_take_30 rfl (lv_at hl 2 rfl) ?_
  refine lv_iconst (v := 2) hx hb dX1_take_31 (by decide) ?_
  refine tq_V (As := [.int x1, .int 2]) (rest := []) (ws := (oh_W 35 a C_13)) ⟨hx, hb, hml, hown, htg⟩ (c_X0_ofWaggon l D E G a C_13 hT x1 (2 : Int32) (rg_w hx1 (by decide)) (rg_w (rg_c (v := 2) (lo := 2) (hi := 2) (by decide)) (by decide))) (cwV 2 htg (oh_gV q_707 q_688 q_689 q_67 q_690) rfl rfl rfl pdVX0_ofWaggon ⟨Nat.le_of_ble_eq_true rfl, Nat.le_of_ble_eq_true rfl⟩) hK hP hG hS (va_recv hK hP (ci := 0) (q0 := 1) rfl (oh_wg (by decide) (sX_1 hT))) rfl hl.1 rfl (Nat.le_of_ble_eq_true rfl) dX1_take_32 ⟨Nat.le_of_ble_eq_true rfl, Nat.le_of_ble_eq_true rfl⟩ (fun r_16 hq_17 => ?_)
  subst hq_17
  refine lv_aload_n hx hb dX1_take_35 rfl (lv_at hl 1 rfl) ?_
  refine va_get (D := D) (ci := 0) (v := .ref (a 15)) (C := RX0) (T := TX0) (N := 8) hx hb htg ig_0 hown hK hP 1 (oh_wg (by decide) (sX_1 hT)) rfl 5 (by decide) (htg _ q_108) (fun _ h9 => h9) rfl dX1_take_36 ?_
  refine lv_iconst (v := 0) hx hb dX1_take_39 (by decide) ?_
  refine th_iald hx hb hK hP 15 (by decide) (Eq.trans (Eq.trans (th_un e_14 (by decide)) (Eq.trans (th_un e_9 (by decide)) (th_un e_4 (by decide)))) (sX_15 hT0)) (rg_in (rg_c (v := 0) (lo := 0) (hi := 0) (by decide)) (by decide)) dX1_take_40 ?_
  refine lv_iadd hx hb dX1_take_41 ?_
  refine lv_aload_n hx hb dX1_take_42 rfl (lv_at hl 1 rfl) ?_
  refine lv_iload_n hx hb dX1_take_43 rfl (lv_at hl 3 rfl) ?_
  refine lv_iconst (v := 0) hx hb dX1_take_44 (by decide) ?_
  refine tq_V (As := [.int x2, .int 0]) (rest := [.int ((ga (C_13 13) ((x1 * 3) + 2).toNatClampNeg) + (ga (C 15) ((0 : Int32)).toNatClampNeg))]) (ws := (oh_W 35 a C_13)) ⟨hx, hb, hml, hown, htg⟩ (c_X0_sumOfParts l D E G a C_13 hT x2 (0 : Int32) (rg_w (rg_c (v := 0) (lo := 0) (hi := 0) (by decide)) (by decide))) (cwV 2 htg (oh_gV q_709 q_710 q_711 q_67 q_712) rfl rfl rfl pdVX0_sumOfParts ⟨Nat.le_of_ble_eq_true rfl, Nat.le_of_ble_eq_true rfl⟩) hK hP hG hS (va_recv hK hP (ci := 0) (q0 := 1) rfl (oh_wg (by decide) (sX_1 hT))) rfl hl.1 rfl (Nat.le_of_ble_eq_true rfl) dX1_take_45 ⟨Nat.le_of_ble_eq_true rfl, Nat.le_of_ble_eq_true rfl⟩ (fun r_18 hq_19 => ?_)
  refine lv_isub hx hb dX1_take_48 ?_
  refine lv_istore (lv' := [(4, .int (((ga (C_13 13) ((x1 * 3) + 2).toNatClampNeg) + (ga (C 15) ((0 : Int32)).toNatClampNeg)) - r_18)), (0, .ref (a 9)), (1, .ref (a 1)), (2, .int x1), (3, .int x2)]) hx hb dX1_take_49 hl (by decide) rfl (fun ls hl => ?_)
  refine lv_aload_n hx hb dX1_take_51 rfl (lv_at hl 1 rfl) ?_
  refine lv_iload hx hb dX1_take_52 (lv_at hl 0 rfl) ?_
  refine lv_iconst (v := 0) hx hb dX1_take_54 (by decide) ?_
  refine va_mmax hx hb (by rw [hml]; exact hl.1.symm) hown (htg _ q_713) (htg _ q_714) (htg _ q_79) (htg _ q_715) (Nat.le_of_ble_eq_true rfl) (Nat.le_of_ble_eq_true rfl) (Nat.le_of_ble_eq_true rfl) (Nat.le_of_ble_eq_true rfl) dX1_take_55 ?_
  refine lv_aload_n hx hb dX1_take_58 rfl (lv_at hl 1 rfl) ?_
  refine va_get (D := D) (ci := 1) (v := .int (ga (C 13) ((x1 * 3) + 0).toNatClampNeg)) (C := RX1) (T := TX1) (N := 5) hx hb htg ig_1 hown hK hP 9 (oh_wg (by decide) (sX_9 hT)) rfl 0 (by decide) (htg _ q_145) (fun _ h9 => h9) (oh_fv (c := C_13 9) (j := 0) rfl (Eq.trans (show gi (C_13 9) 0 = gi (C_8 9) 0 by rw [e_14]; rfl) (Eq.trans (show gi (C_8 9) 0 = gi (C_3 9) 0 by rw [e_9]; rfl) (show gi (C_3 9) 0 = (ga (C 13) ((x1 * 3) + 0).toNatClampNeg) by rw [e_4]; rfl)))) dX1_take_59 ?_
  refine tq_SN (As := [.int (if ((ga (C_13 13) ((x1 * 3) + 2).toNatClampNeg) + (ga (C 15) ((0 : Int32)).toNatClampNeg)) - r_18 < 0 then 0 else ((ga (C_13 13) ((x1 * 3) + 2).toNatClampNeg) + (ga (C 15) ((0 : Int32)).toNatClampNeg)) - r_18), .int (ga (C 13) ((x1 * 3) + 0).toNatClampNeg)]) (rest := [.ref (a 9)]) (ws := []) ⟨hx, hb, hml, hown, htg⟩ (c_X6_roundedUp l D E G (if ((ga (C_13 13) ((x1 * 3) + 2).toNatClampNeg) + (ga (C 15) ((0 : Int32)).toNatClampNeg)) - r_18 < 0 then 0 else ((ga (C_13 13) ((x1 * 3) + 2).toNatClampNeg) + (ga (C 15) ((0 : Int32)).toNatClampNeg)) - r_18) (ga (C 13) ((x1 * 3) + 0).toNatClampNeg)) ⟨va_cnB (y := yX6_roundedUp) 2 htg (oh_gW q_718) rfl rfl rfl (hG.1 ("OneHeavyLoad$Pack", 43, ⟨"OneHeavyLoad", "roundedUp", "(II)I"⟩, "OneHeavyLoad") (List.mem_of_getElem? (i := 3) rfl)) (htg _ q_66) pdX6_roundedUp ⟨Nat.le_of_ble_eq_true rfl, Nat.le_of_ble_eq_true rfl⟩, htg _ q_717, trivial⟩ hK va_nil hG hS rfl hl.1 rfl (Nat.le_of_ble_eq_true rfl) dX1_take_62 ⟨Nat.le_of_ble_eq_true rfl, Nat.le_of_ble_eq_true rfl⟩ (fun r_20 hq_21 => ?_)
  refine th_put (Tp := TyX a E) (Rl := fr [(9, 10)] [] C) (ci := 1) (v := .int r_20) (ty := .int) (CC := RX1) (T := TX1) (N := 5) hx hb htg ig_1 tyX1 tyX1_ok nmX1 hown hK hP hD hS 9 (by decide) (sX_9 hT) rfl 3 (by decide) (htg _ q_149) (fun _ h9 => h9) rfl (by decide +kernel) rfl rfl (Nat.le_of_ble_eq_true rfl) (hT.up 9 rfl) (fr_st hF (by decide) (by decide)) dX1_take_65 (fun C_22 H locs e_23 hT hF hP hD hS => ?_)
  have t_24 := hT
  refine lv_aload_n hx hb dX1_take_68 rfl (lv_at hl 1 rfl) ?_
  refine lv_aload_n hx hb dX1_take_69 rfl (lv_at hl 2 rfl) ?_
  refine lv_iload_n hx hb dX1_take_70 rfl (lv_at hl 4 rfl) ?_
  refine lv_iconst (v := 1) hx hb dX1_take_71 (by decide) ?_
  refine tq_V (As := [.int x2, .int 1]) (rest := [.ref (a 9)]) (ws := (oh_W 35 a C_22)) ⟨hx, hb, hml, hown, htg⟩ (c_X0_sumOfParts l D E G a C_22 hT x2 (1 : Int32) (rg_w (rg_c (v := 1) (lo := 1) (hi := 1) (by decide)) (by decide))) (cwV 2 htg (oh_gV q_709 q_710 q_711 q_67 q_712) rfl rfl rfl pdVX0_sumOfParts ⟨Nat.le_of_ble_eq_true rfl, Nat.le_of_ble_eq_true rfl⟩) hK hP hG hS (va_recv hK hP (ci := 0) (q0 := 1) rfl (oh_wg (by decide) (sX_1 hT))) rfl hl.1 rfl (Nat.le_of_ble_eq_true rfl) dX1_take_72 ⟨Nat.le_of_ble_eq_true rfl, Nat.le_of_ble_eq_true rfl⟩ (fun r_25 hq_26 => ?_)
  refine th_put (Tp := TyX a E) (Rl := fr [(9, 10)] [] C) (ci := 1) (v := .int r_25) (ty := .int) (CC := RX1) (T := TX1) (N := 5) hx hb htg ig_1 tyX1 tyX1_ok nmX1 hown hK hP hD hS 9 (by decide) (sX_9 hT) rfl 4 (by decide) (htg _ q_152) (fun _ h9 => h9) rfl (by decide +kernel) rfl rfl (Nat.le_of_ble_eq_true rfl) (hT.up 9 rfl) (fr_st hF (by decide) (by decide)) dX1_take_75 (fun C_27 H locs e_28 hT hF hP hD hS => ?_)
  have t_29 := hT
  rw [hQ]
  exact W.vret hx hb hr (fun t ht hW => ⟨⟨C_27, rfl, ⟨hT, hF, trivial⟩, ⟨by rw [ht]; exact hP, hD⟩⟩, hS.F ht⟩) hS.2.2 dX1_take_78

set_option maxHeartbeats 4000000 in
set_option maxRecDepth 100000 in
theorem c_X1_strainOn (l : Launch) (D : va_G) (E : Nat → ClassId) (G : Nat → Nat) (a : Nat → Nat) (C : Nat → va_E) (hT : TyX a E C) (x1 : Int32) : Met l yX1_strainOn (oh_w yX1_strainOn cX1_strainOn 2 (some .int)) ({ frames := 1, cells := 0, slots := 0, locals := 21 }) (oh_Pp D E G [.ref (a 9), .int x1] (oh_W 35 a C)) (vp_Si (fun r => True)) 0 0 (fun _ => False) := by
  refine Met.ofW (cc := cX1_strainOn) (maxL := 2) (ret := (some .int)) (by decide) rfl ?_
  intro p e s m args below meth c s₁ B hml hv
  obtain ⟨rfl, hP, hK, hG⟩ := hv
  have hx := B.exec
  have hb := B.bytes
  have hr := B.returns
  have hts := atoms_spec (ws := (oh_w yX1_strainOn cX1_strainOn 2 (some .int))) B.pre
  have htg : ∀ w ∈ oh_t, w.before _ s = true := fun w h => hts w (List.mem_cons_of_mem _ h)
  have hown : s.vm.findClass RX1 = some m.cls := findClass_of_methodNamed B.named
  have hlocks := B.notSynchronized
  have hT0 := hT
  have hS : va_S (fun _ => False) s.heap s.heap [] := va_S.rf
  have hl := lv_entry ([.ref (a 9), .int x1]) (n := 2) (Nat.le_of_ble_eq_true rfl)
  rw [lg_entry_eq]
  generalize (lg_sl ([.ref (a 9), .int x1]) ++ List.replicate (2 - (lg_sl ([.ref (a 9), .int x1])).length) Slot.unset).toArray = ls at hl ⊢
  have hl : lv_has ls 2 [(0, .ref (a 9)), (1, .int x1)] := hl
  refine oh_genQ (fun Q hQ => ?_)
  refine lv_aload_n hx hb dX1_strainOn_0 rfl (lv_at hl 0 rfl) ?_
  refine va_get (D := D) (ci := 1) (v := .int (gi (C 9) 0)) (C := RX1) (T := TX1) (N := 5) hx hb htg ig_1 hown hK hP 9 (oh_wg (by decide) (sX_9 hT)) rfl 0 (by decide) (htg _ q_145) (fun _ h9 => h9) rfl dX1_strainOn_1 ?_
  refine lv_iload_n hx hb dX1_strainOn_4 rfl (lv_at hl 1 rfl) ?_
  refine lv_aload_n hx hb dX1_strainOn_5 rfl (lv_at hl 0 rfl) ?_
  refine va_get (D := D) (ci := 1) (v := .int (gi (C 9) 1)) (C := RX1) (T := TX1) (N := 5) hx hb htg ig_1 hown hK hP 9 (oh_wg (by decide) (sX_9 hT)) rfl 1 (by decide) (htg _ q_146) (fun _ h9 => h9) rfl dX1_strainOn_6 ?_
  refine tq_SN (As := [.int x1, .int (gi (C 9) 1)]) (rest := [.int (gi (C 9) 0)]) (ws := []) ⟨hx, hb, hml, hown, htg⟩ (c_X6_cut l D E G x1 (gi (C 9) 1)) ⟨va_cnB (y := yX6_cut) 2 htg (oh_gW q_729) rfl rfl rfl (hG.1 ("OneHeavyLoad$Pack", 52, ⟨"OneHeavyLoad", "cut", "(II)I"⟩, "OneHeavyLoad") (List.mem_of_getElem? (i := 4) rfl)) (htg _ q_66) pdX6_cut ⟨Nat.le_of_ble_eq_true rfl, Nat.le_of_ble_eq_true rfl⟩, htg _ q_728, trivial⟩ hK va_nil hG hS rfl hl.1 rfl (Nat.le_of_ble_eq_true rfl) dX1_strainOn_9 ⟨Nat.le_of_ble_eq_true rfl, Nat.le_of_ble_eq_true rfl⟩ (fun r_1 hq_2 => ?_)
  refine lv_iconst (v := 1) hx hb dX1_strainOn_12 (by decide) ?_
  refine lv_iadd hx hb dX1_strainOn_13 ?_
  refine va_mmin hx hb (by rw [hml]; exact hl.1.symm) hown (htg _ q_730) (htg _ q_731) (htg _ q_79) (htg _ q_732) (Nat.le_of_ble_eq_true rfl) (Nat.le_of_ble_eq_true rfl) (Nat.le_of_ble_eq_true rfl) (Nat.le_of_ble_eq_true rfl) dX1_strainOn_14 ?_
  refine lv_aload_n hx hb dX1_strainOn_17 rfl (lv_at hl 0 rfl) ?_
  refine va_get (D := D) (ci := 1) (v := .int (gi (C 9) 3)) (C := RX1) (T := TX1) (N := 5) hx hb htg ig_1 hown hK hP 9 (oh_wg (by decide) (sX_9 hT)) rfl 3 (by decide) (htg _ q_149) (fun _ h9 => h9) rfl dX1_strainOn_18 ?_
  refine lv_imul hx hb dX1_strainOn_21 ?_
  rw [hQ]
  exact W.iret (v := (if r_1 + 1 < gi (C 9) 0 then r_1 + 1 else gi (C 9) 0) * (gi (C 9) 3)) hx hb hr (fun t ht hW => ⟨(if r_1 + 1 < gi (C 9) 0 then r_1 + 1 else gi (C 9) 0) * (gi (C 9) 3), rfl, trivial, ht⟩) (fun q h => by cases h) dX1_strainOn_22

set_option maxHeartbeats 4000000 in
set_option maxRecDepth 100000 in
theorem c_X1_needsOf (l : Launch) (D : va_G) (E : Nat → ClassId) (G : Nat → Nat) (a : Nat → Nat) (C : Nat → va_E) (hT : TyX a E C) (x1 : Int32) (hx1 : rg x1 0 15) : Met l yX1_needsOf (oh_w yX1_needsOf cX1_needsOf 5 (some .int)) ({ frames := 2, cells := 0, slots := 0, locals := 51 }) (oh_Pp D E G [.ref (a 9), .ref (a 1), .int x1] (oh_W 35 a C)) (vp_Si (fun r => True)) 0 0 (fun _ => False) := by
  refine Met.ofW (cc := cX1_needsOf) (maxL := 5) (ret := (some .int)) (by decide) rfl ?_
  intro p e s m args below meth c s₁ B hml hv
  obtain ⟨rfl, hP, hK, hG⟩ := hv
  have hx := B.exec
  have hb := B.bytes
  have hr := B.returns
  have hts := atoms_spec (ws := (oh_w yX1_needsOf cX1_needsOf 5 (some .int))) B.pre
  have htg : ∀ w ∈ oh_t, w.before _ s = true := fun w h => hts w (List.mem_cons_of_mem _ h)
  have hown : s.vm.findClass RX1 = some m.cls := findClass_of_methodNamed B.named
  have hlocks := B.notSynchronized
  have hT0 := hT
  have hS : va_S (fun _ => False) s.heap s.heap [] := va_S.rf
  have hl := lv_entry ([.ref (a 9), .ref (a 1), .int x1]) (n := 5) (Nat.le_of_ble_eq_true rfl)
  rw [lg_entry_eq]
  generalize (lg_sl ([.ref (a 9), .ref (a 1), .int x1]) ++ List.replicate (5 - (lg_sl ([.ref (a 9), .ref (a 1), .int x1])).length) Slot.unset).toArray = ls at hl ⊢
  have hl : lv_has ls 5 [(0, .ref (a 9)), (1, .ref (a 1)), (2, .int x1)] := hl
  refine oh_genQ (fun Q hQ => ?_)
  refine lv_aload_n hx hb dX1_needsOf_0 rfl (lv_at hl 0 rfl) ?_
  refine va_get (D := D) (ci := 1) (v := .int (gi (C 9) 3)) (C := RX1) (T := TX1) (N := 5) hx hb htg ig_1 hown hK hP 9 (oh_wg (by decide) (sX_9 hT)) rfl 3 (by decide) (htg _ q_149) (fun _ h9 => h9) rfl dX1_needsOf_1 ?_
  refine lv_aload_n hx hb dX1_needsOf_4 rfl (lv_at hl 1 rfl) ?_
  refine lv_iload_n hx hb dX1_needsOf_5 rfl (lv_at hl 2 rfl) ?_
  refine tq_V (As := [.int x1]) (rest := [.int (gi (C 9) 3)]) (ws := (oh_W 35 a C)) ⟨hx, hb, hml, hown, htg⟩ (c_X0_bearsAxle l D E G a C hT x1 (rg_w hx1 (by decide))) (cwV 1 htg (oh_gV q_741 q_394 q_395 q_67 q_396) rfl rfl rfl pdVX0_bearsAxle ⟨Nat.le_of_ble_eq_true rfl, Nat.le_of_ble_eq_true rfl⟩) hK hP hG hS (va_recv hK hP (ci := 0) (q0 := 1) rfl (oh_wg (by decide) (sX_1 hT))) rfl hl.1 rfl (Nat.le_of_ble_eq_true rfl) dX1_needsOf_6 ⟨Nat.le_of_ble_eq_true rfl, Nat.le_of_ble_eq_true rfl⟩ (fun r_1 hq_2 => ?_)
  refine lv_icmp_le (tgt := 14) hx hb dX1_needsOf_9 (by decide) (fun (c_3 : (gi (C 9) 3) ≤ r_1) => ?_) (fun (c_3 : ¬ ((gi (C 9) 3) ≤ r_1)) => ?_)
  · refine lv_aload_n hx hb dX1_needsOf_14 rfl (lv_at hl 0 rfl) ?_
    refine lv_aload_n hx hb dX1_needsOf_15 rfl (lv_at hl 1 rfl) ?_
    refine lv_iload_n hx hb dX1_needsOf_16 rfl (lv_at hl 2 rfl) ?_
    refine lv_iconst (v := 2) hx hb dX1_needsOf_17 (by decide) ?_
    refine tq_V (As := [.int x1, .int 2]) (rest := [.ref (a 9)]) (ws := (oh_W 35 a C)) ⟨hx, hb, hml, hown, htg⟩ (c_X0_ofBridge l D E G a C hT x1 (2 : Int32) (rg_w hx1 (by decide)) (rg_w (rg_c (v := 2) (lo := 2) (hi := 2) (by decide)) (by decide))) (cwV 2 htg (oh_gV q_742 q_385 q_386 q_67 q_387) rfl rfl rfl pdVX0_ofBridge ⟨Nat.le_of_ble_eq_true rfl, Nat.le_of_ble_eq_true rfl⟩) hK hP hG hS (va_recv hK hP (ci := 0) (q0 := 1) rfl (oh_wg (by decide) (sX_1 hT))) rfl hl.1 rfl (Nat.le_of_ble_eq_true rfl) dX1_needsOf_18 ⟨Nat.le_of_ble_eq_true rfl, Nat.le_of_ble_eq_true rfl⟩ (fun r_4 hq_5 => ?_)
    subst hq_5
    refine tq_V (As := [.int (ga (C 12) ((x1 * 10) + 2).toNatClampNeg)]) (rest := []) (ws := (oh_W 35 a C)) ⟨hx, hb, hml, hown, htg⟩ (c_X1_strainOn l D E G a C hT (ga (C 12) ((x1 * 10) + 2).toNatClampNeg)) (cwV 1 htg (oh_gV q_743 q_724 q_725 q_69 q_726) rfl rfl rfl pdVX1_strainOn ⟨Nat.le_of_ble_eq_true rfl, Nat.le_of_ble_eq_true rfl⟩) hK hP hG hS (va_recv hK hP (ci := 1) (q0 := 9) rfl (oh_wg (by decide) (sX_9 hT))) rfl hl.1 rfl (Nat.le_of_ble_eq_true rfl) dX1_needsOf_21 ⟨Nat.le_of_ble_eq_true rfl, Nat.le_of_ble_eq_true rfl⟩ (fun r_6 hq_7 => ?_)
    refine lv_istore_n (lv' := [(3, .int r_6), (0, .ref (a 9)), (1, .ref (a 1)), (2, .int x1)]) hx hb dX1_needsOf_24 rfl hl (by decide) rfl (fun ls hl => ?_)
    refine lv_aload_n hx hb dX1_needsOf_25 rfl (lv_at hl 2 rfl) ?_
    refine lv_iload_n hx hb dX1_needsOf_26 rfl (lv_at hl 3 rfl) ?_
    refine tq_V (As := [.int x1]) (rest := []) (ws := (oh_W 35 a C)) ⟨hx, hb, hml, hown, htg⟩ (c_X0_isPropped l D E G a C hT x1 (rg_w hx1 (by decide))) (cwV 1 htg (oh_gV q_744 q_402 q_403 q_67 q_404) rfl rfl rfl pdVX0_isPropped ⟨Nat.le_of_ble_eq_true rfl, Nat.le_of_ble_eq_true rfl⟩) hK hP hG hS (va_recv hK hP (ci := 0) (q0 := 1) rfl (oh_wg (by decide) (sX_1 hT))) rfl hl.1 rfl (Nat.le_of_ble_eq_true rfl) dX1_needsOf_27 ⟨Nat.le_of_ble_eq_true rfl, Nat.le_of_ble_eq_true rfl⟩ (fun r_8 hq_9 => ?_)
    refine lv_istore (lv' := [(4, .int r_8), (3, .int r_6), (0, .ref (a 9)), (1, .ref (a 1)), (2, .int x1)]) hx hb dX1_needsOf_30 hl (by decide) rfl (fun ls hl => ?_)
    refine lv_iload_n hx hb dX1_needsOf_32 rfl (lv_at hl 1 rfl) ?_
    refine lv_aload_n hx hb dX1_needsOf_33 rfl (lv_at hl 3 rfl) ?_
    refine lv_iload_n hx hb dX1_needsOf_34 rfl (lv_at hl 4 rfl) ?_
    refine lv_iload hx hb dX1_needsOf_35 (lv_at hl 0 rfl) ?_
    refine tq_V (As := [.int x1, .int r_8]) (rest := [.int r_6]) (ws := (oh_W 35 a C)) ⟨hx, hb, hml, hown, htg⟩ (c_X0_bearsAll l D E G a C hT x1 r_8 (rg_w hx1 (by decide)) (rg_w (oh_rgb hq_9) (by decide))) (cwV 2 htg (oh_gV q_745 q_406 q_407 q_67 q_408) rfl rfl rfl pdVX0_bearsAll ⟨Nat.le_of_ble_eq_true rfl, Nat.le_of_ble_eq_true rfl⟩) hK hP hG hS (va_recv hK hP (ci := 0) (q0 := 1) rfl (oh_wg (by decide) (sX_1 hT))) rfl hl.1 rfl (Nat.le_of_ble_eq_true rfl) dX1_needsOf_37 ⟨Nat.le_of_ble_eq_true rfl, Nat.le_of_ble_eq_true rfl⟩ (fun r_10 hq_11 => ?_)
    refine lv_icmp_gt (tgt := 45) hx hb dX1_needsOf_40 (by decide) (fun (c_12 : r_10 < r_6) => ?_) (fun (c_12 : ¬ (r_10 < r_6)) => ?_)
    · refine lv_iload hx hb dX1_needsOf_45 (lv_at hl 0 rfl) ?_
      refine lv_if_ne (tgt := 60) hx hb dX1_needsOf_47 (by decide) (fun (c_13 : ¬ (r_8 = 0)) => ?_) (fun (c_13 : r_8 = 0) => ?_)
      · refine lv_iconst (v := 2) hx hb dX1_needsOf_60 (by decide) ?_
        rw [hQ]
        exact W.iret (v := 2) hx hb hr (fun t ht hW => ⟨2, rfl, trivial, ht⟩) (fun q h => by cases h) dX1_needsOf_61
      · refine lv_aload_n hx hb dX1_needsOf_50 rfl (lv_at hl 3 rfl) ?_
        refine lv_iload_n hx hb dX1_needsOf_51 rfl (lv_at hl 4 rfl) ?_
        refine lv_iconst (v := 1) hx hb dX1_needsOf_52 (by decide) ?_
        refine tq_V (As := [.int x1, .int 1]) (rest := []) (ws := (oh_W 35 a C)) ⟨hx, hb, hml, hown, htg⟩ (c_X0_ofBridge l D E G a C hT x1 (1 : Int32) (rg_w hx1 (by decide)) (rg_w (rg_c (v := 1) (lo := 1) (hi := 1) (by decide)) (by decide))) (cwV 2 htg (oh_gV q_742 q_385 q_386 q_67 q_387) rfl rfl rfl pdVX0_ofBridge ⟨Nat.le_of_ble_eq_true rfl, Nat.le_of_ble_eq_true rfl⟩) hK hP hG hS (va_recv hK hP (ci := 0) (q0 := 1) rfl (oh_wg (by decide) (sX_1 hT))) rfl hl.1 rfl (Nat.le_of_ble_eq_true rfl) dX1_needsOf_53 ⟨Nat.le_of_ble_eq_true rfl, Nat.le_of_ble_eq_true rfl⟩ (fun r_14 hq_15 => ?_)
        subst hq_15
        refine lv_iconst (v := 3) hx hb dX1_needsOf_56 (by decide) ?_
        refine lv_icmp_ne (tgt := 62) hx hb dX1_needsOf_57 (by decide) (fun (c_16 : ¬ ((ga (C 12) ((x1 * 10) + 1).toNatClampNeg) = 3)) => ?_) (fun (c_16 : (ga (C 12) ((x1 * 10) + 1).toNatClampNeg) = 3) => ?_)
        · refine lv_iload_n hx hb dX1_needsOf_62 rfl (lv_at hl 1 rfl) ?_
          refine lv_aload_n hx hb dX1_needsOf_63 rfl (lv_at hl 3 rfl) ?_
          refine lv_iload_n hx hb dX1_needsOf_64 rfl (lv_at hl 4 rfl) ?_
          refine lv_iconst (v := 1) hx hb dX1_needsOf_65 (by decide) ?_
          refine tq_V (As := [.int x1, .int 1]) (rest := [.int r_6]) (ws := (oh_W 35 a C)) ⟨hx, hb, hml, hown, htg⟩ (c_X0_bearsAll l D E G a C hT x1 (1 : Int32) (rg_w hx1 (by decide)) (rg_w (rg_c (v := 1) (lo := 1) (hi := 1) (by decide)) (by decide))) (cwV 2 htg (oh_gV q_745 q_406 q_407 q_67 q_408) rfl rfl rfl pdVX0_bearsAll ⟨Nat.le_of_ble_eq_true rfl, Nat.le_of_ble_eq_true rfl⟩) hK hP hG hS (va_recv hK hP (ci := 0) (q0 := 1) rfl (oh_wg (by decide) (sX_1 hT))) rfl hl.1 rfl (Nat.le_of_ble_eq_true rfl) dX1_needsOf_66 ⟨Nat.le_of_ble_eq_true rfl, Nat.le_of_ble_eq_true rfl⟩ (fun r_17 hq_18 => ?_)
          refine lv_icmp_gt (tgt := 76) hx hb dX1_needsOf_69 (by decide) (fun (c_19 : r_17 < r_6) => ?_) (fun (c_19 : ¬ (r_17 < r_6)) => ?_)
          · refine lv_iconst (v := 2) hx hb dX1_needsOf_76 (by decide) ?_
            rw [hQ]
            exact W.iret (v := 2) hx hb hr (fun t ht hW => ⟨2, rfl, trivial, ht⟩) (fun q h => by cases h) dX1_needsOf_77
          · refine lv_iconst (v := 1) hx hb dX1_needsOf_72 (by decide) ?_
            refine lv_goto (tgt := 77) hx hb dX1_needsOf_73 (by decide) ?_
            rw [hQ]
            exact W.iret (v := 1) hx hb hr (fun t ht hW => ⟨1, rfl, trivial, ht⟩) (fun q h => by cases h) dX1_needsOf_77
        · refine lv_iconst (v := 2) hx hb dX1_needsOf_60 (by decide) ?_
          rw [hQ]
          exact W.iret (v := 2) hx hb hr (fun t ht hW => ⟨2, rfl, trivial, ht⟩) (fun q h => by cases h) dX1_needsOf_61
    · refine lv_iconst (v := 0) hx hb dX1_needsOf_43 (by decide) ?_
      rw [hQ]
      exact W.iret (v := 0) hx hb hr (fun t ht hW => ⟨0, rfl, trivial, ht⟩) (fun q h => by cases h) dX1_needsOf_44
  · refine lv_iconst (v := 2) hx hb dX1_needsOf_12 (by decide) ?_
    rw [hQ]
    exact W.iret (v := 2) hx hb hr (fun t ht hW => ⟨2, rfl, trivial, ht⟩) (fun q h => by cases h) dX1_needsOf_13
