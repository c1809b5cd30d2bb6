set_option maxHeartbeats 4000000 in
set_option maxRecDepth 100000 in
theorem c_X3_copyElements (l : Launch) (D : va_G) (E : Nat → ClassId) (G : Nat → Nat) (sz : Nat) (a : Nat → Nat) (C : Nat → va_E) (hT : TyX a E C) (x1 : Int32) (x2 : Int32) (x3 : Int32) (x4 : Int32) (x5 : Int32) (hx1 : rg x1 0 7) (hx2 : rg x2 0 7) (hx3 : rg x3 0 40) (hx4 : rg x4 0 40) (hx5 : rg x5 0 40) (hx3p : x3.toInt + x5.toInt ≤ 40) (hx4p : x4.toInt + x5.toInt ≤ 40) : Met l yX3_copyElements (oh_w yX3_copyElements cX3_copyElements 6 none) ({ frames := 1, cells := 0, slots := 0, locals := 18 }) (oh_Pm D E G [.ref (a 4), .int x1, .int x2, .int x3, .int x4, .int x5] (oh_W 35 a C) sz) (va_Qv (fun (u : Nat → va_E) => TyX a E u ∧ fr [(31, 32)] [] C u ∧ True) (oh_B D (va_A (oh_W 35 a C) sz) (fun u => oh_W 35 a u)) (va_A (oh_W 35 a C) sz)) 0 0 (va_A (oh_W 35 a C) sz) := by
  refine Met.ofW (cc := cX3_copyElements) (maxL := 6) (ret := none) (by decide) rfl ?_
  intro p e s m args below meth c s₁ B hml hv
  obtain ⟨rfl, hsz, hP, hK, hD0, hG⟩ := hv
  have hx := B.exec
  have hb := B.bytes
  have hr := B.returns
  have hts := atoms_spec (ws := (oh_w yX3_copyElements cX3_copyElements 6 none)) B.pre
  have htg : ∀ w ∈ oh_t, w.before _ s = true := fun w h => hts w (List.mem_cons_of_mem _ h)
  have hown : s.vm.findClass RX3 = some m.cls := findClass_of_methodNamed B.named
  have hlocks := B.notSynchronized
  have hT0 := hT
  subst hsz
  have hD := hD0.self (sz := s.heap.size)
  generalize hAe : va_A (oh_W 35 a C) s.heap.size = A at hD hG ⊢
  have hA : ∀ q : Nat, s.heap.size ≤ q → A q := fun q h => by rw [← hAe]; exact Or.inr h
  have hS : va_S A s.heap s.heap [] := va_S.rf
  have hF : fr [(31, 32)] [] C C := fr_rf
  have hl := lv_entry ([.ref (a 4), .int x1, .int x2, .int x3, .int x4, .int x5]) (n := 6) (Nat.le_of_ble_eq_true rfl)
  rw [lg_entry_eq]
  generalize (lg_sl ([.ref (a 4), .int x1, .int x2, .int x3, .int x4, .int x5]) ++ List.replicate (6 - (lg_sl ([.ref (a 4), .int x1, .int x2, .int x3, .int x4, .int x5])).length) Slot.unset).toArray = ls at hl ⊢
  have hl : lv_has ls 6 [(0, .ref (a 4)), (1, .int x1), (2, .int x2), (3, .int x3), (4, .int x4), (5, .int x5)] := hl
  refine oh_genQ (fun Q hQ => ?_)
  refine lv_aload_n hx hb dX3_copyElements_0 rfl (lv_at hl 0 rfl) ?_
  refine va_get (D := D) (ci := 3) (v := .ref (a 31)) (C := RX3) (T := TX3) (N := 3) hx hb htg ig_3 hown hK hP 4 (oh_wg (by decide) (sX_4 hT)) rfl 2 (by decide) (htg _ q_202) (fun _ h9 => h9) rfl dX3_copyElements_1 ?_
  refine lv_iload_n hx hb dX3_copyElements_4 rfl (lv_at hl 1 rfl) ?_
  refine lv_bipush (v := 40) hx hb dX3_copyElements_5 (by decide) ?_
  refine lv_imul hx hb dX3_copyElements_7 ?_
  refine lv_iload_n hx hb dX3_copyElements_8 rfl (lv_at hl 3 rfl) ?_
  refine lv_iadd hx hb dX3_copyElements_9 ?_
  refine lv_aload_n hx hb dX3_copyElements_10 rfl (lv_at hl 0 rfl) ?_
  refine va_get (D := D) (ci := 3) (v := .ref (a 31)) (C := RX3) (T := TX3) (N := 3) hx hb htg ig_3 hown hK hP 4 (oh_wg (by decide) (sX_4 hT)) rfl 2 (by decide) (htg _ q_202) (fun _ h9 => h9) rfl dX3_copyElements_11 ?_
  refine lv_iload_n hx hb dX3_copyElements_14 rfl (lv_at hl 2 rfl) ?_
  refine lv_bipush (v := 40) hx hb dX3_copyElements_15 (by decide) ?_
  refine lv_imul hx hb dX3_copyElements_17 ?_
  refine lv_iload hx hb dX3_copyElements_18 (lv_at hl 4 rfl) ?_
  refine lv_iadd hx hb dX3_copyElements_20 ?_
  refine lv_iload hx hb dX3_copyElements_21 (lv_at hl 5 rfl) ?_
  refine th_copyl (T := TyX a E) (Rl := fr [(31, 32)] [] C) hx hb (by rw [hml]; exact hl.1.symm) hown (htg _ q_345) (htg _ q_347) (htg _ q_346) (htg _ q_74) hK hP hD hS 31 31 (by decide) (by decide) (sX_31 hT) (sX_31 hT) (oh_nn (rg_add (lo := 0) (hi := 320) (rg_mul (lo := 0) (hi := 280) hx1 (rg_c (v := 40) (lo := 40) (hi := 40) (by decide)) (by decide)) hx3 (by decide)) (by decide)) (oh_nn (rg_add (lo := 0) (hi := 320) (rg_mul (lo := 0) (hi := 280) hx2 (rg_c (v := 40) (lo := 40) (hi := 40) (by decide)) (by decide)) hx4 (by decide)) (by decide)) (oh_nn hx5 (by decide)) (oh_cp hx1 hx5 hx3p hx3.1) (oh_cp hx2 hx5 hx4p hx4.1) (hT.up 31 rfl) (fr_st hF (by decide) (by decide)) (Nat.le_of_ble_eq_true rfl) (Nat.le_of_ble_eq_true rfl) dX3_copyElements_23 (fun C_1 H locs e_2 hT hF hP hD hS => ?_)
  have t_3 := hT
  rw [hQ]
  exact W.vret hx hb hr (fun t ht hW => ⟨⟨C_1, rfl, ⟨hT, hF, trivial⟩, ⟨by rw [ht]; exact hP, hD⟩⟩, hS.F ht⟩) hS.2.2 dX3_copyElements_26

set_option maxHeartbeats 4000000 in
set_option maxRecDepth 100000 in
theorem c_X6_refuse (l : Launch) (D : va_G) (E : Nat → ClassId) (G : Nat → Nat) (sz : Nat) (a : Nat → Nat) (C : Nat → va_E) (hT : TyX a E C) (x1 : Int32) : Met l yX6_refuse (oh_w yX6_refuse cX6_refuse 3 (some .int)) ({ frames := 1, cells := 0, slots := 0, locals := 22 }) (oh_Pm D E G [.ref (a 0), .int x1] (oh_W 35 a C) sz) (va_Qi (fun r (u : Nat → va_E) => TyX a E u ∧ fr [(7, 8)] [] C u ∧ r = x1) (oh_B D (va_A (oh_W 35 a C) sz) (fun u => oh_W 35 a u)) (va_A (oh_W 35 a C) sz)) 0 0 (va_A (oh_W 35 a C) sz) := by
  refine Met.ofW (cc := cX6_refuse) (maxL := 3) (ret := (some .int)) (by decide) rfl ?_
  intro p e s m args below meth c s₁ B hml hv
  obtain ⟨rfl, hsz, hP, hK, hD0, hG⟩ := hv
  have hx := B.exec
  have hb := B.bytes
  have hr := B.returns
  have hts := atoms_spec (ws := (oh_w yX6_refuse cX6_refuse 3 (some .int))) B.pre
  have htg : ∀ w ∈ oh_t, w.before _ s = true := fun w h => hts w (List.mem_cons_of_mem _ h)
  have hown : s.vm.findClass RX6 = some m.cls := findClass_of_methodNamed B.named
  have hlocks := B.notSynchronized
  have hT0 := hT
  subst hsz
  have hD := hD0.self (sz := s.heap.size)
  generalize hAe : va_A (oh_W 35 a C) s.heap.size = A at hD hG ⊢
  have hA : ∀ q : Nat, s.heap.size ≤ q → A q := fun q h => by rw [← hAe]; exact Or.inr h
  have hS : va_S A s.heap s.heap [] := va_S.rf
  have hF : fr [(7, 8)] [] C C := fr_rf
  have hl := lv_entry ([.ref (a 0), .int x1]) (n := 3) (Nat.le_of_ble_eq_true rfl)
  rw [lg_entry_eq]
  generalize (lg_sl ([.ref (a 0), .int x1]) ++ List.replicate (3 - (lg_sl ([.ref (a 0), .int x1])).length) Slot.unset).toArray = ls at hl ⊢
  have hl : lv_has ls 3 [(0, .ref (a 0)), (1, .int x1)] := hl
  refine oh_genQ (fun Q hQ => ?_)
  refine lv_bipush (v := (-2)) hx hb dX6_refuse_0 (by decide) ?_
  refine lv_iload_n hx hb dX6_refuse_2 rfl (lv_at hl 1 rfl) ?_
  refine lv_isub hx hb dX6_refuse_3 ?_
  refine lv_istore_n (lv' := [(2, .int ((-2) - x1)), (0, .ref (a 0)), (1, .int x1)]) hx hb dX6_refuse_4 rfl hl (by decide) rfl (fun ls hl => ?_)
  refine lv_iload_n hx hb dX6_refuse_5 rfl (lv_at hl 0 rfl) ?_
  refine lv_iconst (v := 0) hx hb dX6_refuse_6 (by decide) ?_
  refine lv_iconst (v := 4) hx hb dX6_refuse_7 (by decide) ?_
  refine tq_S (As := [.int ((-2) - x1), .int 0, .int 4]) (rest := []) (ws := []) ⟨hx, hb, hml, hown, htg⟩ (c_X6_within l D E G ((-2) - x1) (0 : Int32) (4 : Int32)) (va_cwS 3 htg (oh_gS q_293 q_294 q_66 q_295) rfl rfl rfl pdX6_within ⟨Nat.le_of_ble_eq_true rfl, Nat.le_of_ble_eq_true rfl⟩) hK va_nil hG hS rfl hl.1 rfl (Nat.le_of_ble_eq_true rfl) dX6_refuse_8 ⟨Nat.le_of_ble_eq_true rfl, Nat.le_of_ble_eq_true rfl⟩ (fun r_1 hq_2 => ?_)
  refine lv_if_eq (tgt := 24) hx hb dX6_refuse_11 (by decide) (fun (c_3 : r_1 = 0) => ?_) (fun (c_3 : ¬ (r_1 = 0)) => ?_)
  · have u_4 := hq_2.2.2 c_3
    refine lv_iload_n hx hb dX6_refuse_24 rfl (lv_at hl 2 rfl) ?_
    rw [hQ]
    exact W.iret (v := x1) hx hb hr (fun t ht hW => ⟨⟨x1, C, rfl, ⟨hT, hF, rfl⟩, ⟨by rw [ht]; exact hP, hD⟩⟩, hS.F ht⟩) hS.2.2 dX6_refuse_25
  · have u_5 := hq_2.2.1 c_3
    refine lv_aload_n hx hb dX6_refuse_14 rfl (lv_at hl 1 rfl) ?_
    refine va_get (D := D) (ci := 6) (v := .ref (a 7)) (C := RX6) (T := TX6) (N := 9) hx hb htg ig_6 hown hK hP 0 (oh_wg (by decide) (sX_0 hT)) rfl 7 (by decide) (htg _ q_265) (fun _ h9 => h9) rfl dX6_refuse_15 ?_
    refine lv_iload_n hx hb dX6_refuse_18 rfl (lv_at hl 0 rfl) ?_
    refine lv_dup2_11 hx hb dX6_refuse_19 rfl rfl ?_
    have n_6 : vp_in ((-2) - x1) 5 := (rg_in (rn_leu u_5.2 (rn_lel u_5.1 (rg_c (v := 0) (lo := 0) (hi := 0) (by decide)) (rg_any _)) (rg_c (v := 4) (lo := 4) (hi := 4) (by decide))) (by decide))
    refine th_iald hx hb hK hP 7 (by decide) (sX_7 hT) n_6 dX6_refuse_20 ?_
    refine lv_iconst (v := 1) hx hb dX6_refuse_21 (by decide) ?_
    refine lv_iadd hx hb dX6_refuse_22 ?_
    have n_7 : vp_in ((-2) - x1) 5 := (rg_in (rn_leu u_5.2 (rn_lel u_5.1 (rg_c (v := 0) (lo := 0) (hi := 0) (by decide)) (rg_any _)) (rg_c (v := 4) (lo := 4) (hi := 4) (by decide))) (by decide))
    refine th_iast (T := TyX a E) (Rl := fr [(7, 8)] [] C) hx hb hK hP hD hS 7 (by decide) (sX_7 hT) n_7 (hT.up 7 (tA_upd (tX_7 hT) tA_any)) (fr_st hF (by decide) (by decide)) dX6_refuse_23 (fun C_8 H locs e_9 hT hF hP hD hS => ?_)
    have t_10 := hT
    refine lv_iload_n hx hb dX6_refuse_24 rfl (lv_at hl 2 rfl) ?_
    rw [hQ]
    exact W.iret (v := x1) hx hb hr (fun t ht hW => ⟨⟨x1, C_8, rfl, ⟨hT, hF, rfl⟩, ⟨by rw [ht]; exact hP, hD⟩⟩, hS.F ht⟩) hS.2.2 dX6_refuse_25

set_option maxHeartbeats 4000000 in
set_option maxRecDepth 100000 in
theorem c_X6_orStuck (l : Launch) (D : va_G) (E : Nat → ClassId) (G : Nat → Nat) (sz : Nat) (a : Nat → Nat) (C : Nat → va_E) (hT : TyX a E C) (x1 : Int32) : Met l yX6_orStuck (oh_w yX6_orStuck cX6_orStuck 2 (some .int)) ({ frames := 2, cells := 0, slots := 0, locals := 44 }) (oh_Pm D E G [.ref (a 0), .int x1] (oh_W 35 a C) sz) (va_Qi (fun r (u : Nat → va_E) => TyX a E u ∧ fr [(7, 8)] [] C u ∧ True) (oh_B D (va_A (oh_W 35 a C) sz) (fun u => oh_W 35 a u)) (va_A (oh_W 35 a C) sz)) 0 0 (va_A (oh_W 35 a C) sz) := by
  refine Met.ofW (cc := cX6_orStuck) (maxL := 2) (ret := (some .int)) (by decide) rfl ?_
  intro p e s m args below meth c s₁ B hml hv
  obtain ⟨rfl, hsz, hP, hK, hD0, hG⟩ := hv
  have hx := B.exec
  have hb := B.bytes
  have hr := B.returns
  have hts := atoms_spec (ws := (oh_w yX6_orStuck cX6_orStuck 2 (some .int))) B.pre
  have htg : ∀ w ∈ oh_t, w.before _ s = true := fun w h => hts w (List.mem_cons_of_mem _ h)
  have hown : s.vm.findClass RX6 = some m.cls := findClass_of_methodNamed B.named
  have hlocks := B.notSynchronized
  have hT0 := hT
  subst hsz
  have hD := hD0.self (sz := s.heap.size)
  generalize hAe : va_A (oh_W 35 a C) s.heap.size = A at hD hG ⊢
  have hA : ∀ q : Nat, s.heap.size ≤ q → A q := fun q h => by rw [← hAe]; exact Or.inr h
  have hS : va_S A s.heap s.heap [] := va_S.rf
  have hF : fr [(7, 8)] [] C C := fr_rf
  have hl := lv_entry ([.ref (a 0), .int x1]) (n := 2) (Nat.le_of_ble_eq_true rfl)
  rw [lg_entry_eq]
  generalize (lg_sl ([.ref (a 0), .int x1]) ++ List.replicate (2 - (lg_sl ([.ref (a 0), .int x1])).length) Slot.unset).toArray = ls at hl ⊢
  have hl : lv_has ls 2 [(0, .ref (a 0)), (1, .int x1)] := hl
  refine oh_genQ (fun Q hQ => ?_)
  refine lv_iload_n hx hb dX6_orStuck_0 rfl (lv_at hl 1 rfl) ?_
  refine lv_ldc (v := 1000000000) hx hb hown (htg _ q_803) dX6_orStuck_1 ?_
  refine lv_icmp_ne (tgt := 15) hx hb dX6_orStuck_3 (by decide) (fun (c_1 : ¬ (x1 = 1000000000)) => ?_) (fun (c_1 : x1 = 1000000000) => ?_)
  · refine lv_iload_n hx hb dX6_orStuck_15 rfl (lv_at hl 1 rfl) ?_
    rw [hQ]
    exact W.iret (v := x1) hx hb hr (fun t ht hW => ⟨⟨x1, C, rfl, ⟨hT, hF, trivial⟩, ⟨by rw [ht]; exact hP, hD⟩⟩, hS.F ht⟩) hS.2.2 dX6_orStuck_16
  · refine lv_aload_n hx hb dX6_orStuck_6 rfl (lv_at hl 0 rfl) ?_
    refine lv_bipush (v := (-5)) hx hb dX6_orStuck_7 (by decide) ?_
    refine tm_V (As := [.int (-5)]) (rest := []) ⟨hx, hb, hml, hown, htg⟩ (c_X6_refuse l D E G _ a C hT ((-5) : Int32)) (cwV 1 htg (oh_gV q_296 q_298 q_0 q_66 q_299) rfl rfl rfl pdVX6_refuse ⟨Nat.le_of_ble_eq_true rfl, Nat.le_of_ble_eq_true rfl⟩) hK hP hD hG hS hA (va_recv hK hP (ci := 6) (q0 := 0) rfl (oh_wg (by decide) (sX_0 hT))) rfl hl.1 rfl (Nat.le_of_ble_eq_true rfl) dX6_orStuck_9 ⟨Nat.le_of_ble_eq_true rfl, Nat.le_of_ble_eq_true rfl⟩ (fun r_2 C_3 H locs hq_4 hP hD hS => ?_)
    obtain ⟨hT, f_5, hq_4⟩ := hq_4
    have hF := fr_tr hF f_5 (by decide) (by decide)
    refine W.widen (k := 0) (n := 0) (Nat.le_refl _) (Nat.le_refl _) ?_
    have t_6 := hT
    refine lv_goto (tgt := 16) hx hb dX6_orStuck_12 (by decide) ?_
    rw [hQ]
    exact W.iret (v := r_2) hx hb hr (fun t ht hW => ⟨⟨r_2, C_3, rfl, ⟨hT, hF, trivial⟩, ⟨by rw [ht]; exact hP, hD⟩⟩, hS.F ht⟩) hS.2.2 dX6_orStuck_16

set_option maxHeartbeats 4000000 in
set_option maxRecDepth 100000 in
theorem c_X6_isRoad (l : Launch) (D : va_G) (E : Nat → ClassId) (G : Nat → Nat) (a : Nat → Nat) (C : Nat → va_E) (hT : TyX a E C) (x1 : Int32) : Met l yX6_isRoad (oh_w yX6_isRoad cX6_isRoad 2 (some .boolean)) ({ frames := 1, cells := 0, slots := 0, locals := 22 }) (oh_Pp D E G [.ref (a 0), .int x1] (oh_W 35 a C)) (vp_Si (fun r => (r = 0 ∨ r = 1) ∧ (r ≠ 0 → rg x1 0 23))) 0 0 (fun _ => False) := by
  refine Met.ofW (cc := cX6_isRoad) (maxL := 2) (ret := (some .boolean)) (by decide) rfl ?_
  intro p e s m args below meth c s₁ B hml hv
  obtain ⟨rfl, hP, hK, hG⟩ := hv
  have hx := B.exec
  have hb := B.bytes
  have hr := B.returns
  have hts := atoms_spec (ws := (oh_w yX6_isRoad cX6_isRoad 2 (some .boolean))) B.pre
  have htg : ∀ w ∈ oh_t, w.before _ s = true := fun w h => hts w (List.mem_cons_of_mem _ h)
  have hown : s.vm.findClass RX6 = some m.cls := findClass_of_methodNamed B.named
  have hlocks := B.notSynchronized
  have hT0 := hT
  have hS : va_S (fun _ => False) s.heap s.heap [] := va_S.rf
  have hl := lv_entry ([.ref (a 0), .int x1]) (n := 2) (Nat.le_of_ble_eq_true rfl)
  rw [lg_entry_eq]
  generalize (lg_sl ([.ref (a 0), .int x1]) ++ List.replicate (2 - (lg_sl ([.ref (a 0), .int x1])).length) Slot.unset).toArray = ls at hl ⊢
  have hl : lv_has ls 2 [(0, .ref (a 0)), (1, .int x1)] := hl
  refine oh_genQ (fun Q hQ => ?_)
  refine lv_iload_n hx hb dX6_isRoad_0 rfl (lv_at hl 1 rfl) ?_
  refine lv_iconst (v := 0) hx hb dX6_isRoad_1 (by decide) ?_
  refine lv_aload_n hx hb dX6_isRoad_2 rfl (lv_at hl 0 rfl) ?_
  refine va_get (D := D) (ci := 6) (v := .ref (a 1)) (C := RX6) (T := TX6) (N := 9) hx hb htg ig_6 hown hK hP 0 (oh_wg (by decide) (sX_0 hT)) rfl 0 (by decide) (htg _ q_258) (fun _ h9 => h9) rfl dX6_isRoad_3 ?_
  refine va_get (D := D) (ci := 0) (v := .ref (a 10)) (C := RX0) (T := TX0) (N := 8) hx hb htg ig_0 hown hK hP 1 (oh_wg (by decide) (sX_1 hT)) rfl 0 (by decide) (htg _ q_100) (fun _ h9 => h9) rfl dX6_isRoad_6 ?_
  refine lv_iconst (v := 0) hx hb dX6_isRoad_9 (by decide) ?_
  refine th_iald hx hb hK hP 10 (by decide) (sX_10 hT) (rg_in (rg_c (v := 0) (lo := 0) (hi := 0) (by decide)) (by decide)) dX6_isRoad_10 ?_
  refine lv_iconst (v := 1) hx hb dX6_isRoad_11 (by decide) ?_
  refine lv_isub hx hb dX6_isRoad_12 ?_
  refine tq_S (As := [.int x1, .int 0, .int ((ga (C 10) ((0 : Int32)).toNatClampNeg) - 1)]) (rest := []) (ws := []) ⟨hx, hb, hml, hown, htg⟩ (c_X6_within l D E G x1 (0 : Int32) ((ga (C 10) ((0 : Int32)).toNatClampNeg) - 1)) (va_cwS 3 htg (oh_gS q_293 q_294 q_66 q_295) rfl rfl rfl pdX6_within ⟨Nat.le_of_ble_eq_true rfl, Nat.le_of_ble_eq_true rfl⟩) hK va_nil hG hS rfl hl.1 rfl (Nat.le_of_ble_eq_true rfl) dX6_isRoad_13 ⟨Nat.le_of_ble_eq_true rfl, Nat.le_of_ble_eq_true rfl⟩ (fun r_1 hq_2 => ?_)
  rw [hQ]
  exact W.zret (v := r_1) (ty := .boolean) hx hb hr (oh_nb hq_2.1) (fun t ht hW => ⟨r_1, rfl, ⟨hq_2.1, (fun h9 => (rg_w (rn_leu (hq_2.2.1 h9).2 (rn_lel (hq_2.2.1 h9).1 (rg_c (v := 0) (lo := 0) (hi := 0) (by decide)) (rg_any _)) (rg_sub (lo := (-1)) (hi := 23) (tA_rdc (lo := 0) (hi := 24) (tX_10 hT0) (rg_in (rg_c (v := 0) (lo := 0) (hi := 0) (by decide)) (by decide)) (show _ = 0 by decide) (by decide)) (rg_c (v := 1) (lo := 1) (hi := 1) (by decide)) (by decide))) (by decide)))⟩, ht⟩) (fun q h => by cases h) dX6_isRoad_16

set_option maxHeartbeats 4000000 in
set_option maxRecDepth 100000 in
theorem c_X6_isBridge (l : Launch) (D : va_G) (E : Nat → ClassId) (G : Nat → Nat) (a : Nat → Nat) (C : Nat → va_E) (hT : TyX a E C) (x1 : Int32) : Met l yX6_isBridge (oh_w yX6_isBridge cX6_isBridge 2 (some .boolean)) ({ frames := 1, cells := 0, slots := 0, locals := 22 }) (oh_Pp D E G [.ref (a 0), .int x1] (oh_W 35 a C)) (vp_Si (fun r => (r = 0 ∨ r = 1) ∧ (r ≠ 0 → rg x1 0 15))) 0 0 (fun _ => False) := by
  refine Met.ofW (cc := cX6_isBridge) (maxL := 2) (ret := (some .boolean)) (by decide) rfl ?_
  intro p e s m args below meth c s₁ B hml hv
  obtain ⟨rfl, hP, hK, hG⟩ := hv
  have hx := B.exec
  have hb := B.bytes
  have hr := B.returns
  have hts := atoms_spec (ws := (oh_w yX6_isBridge cX6_isBridge 2 (some .boolean))) B.pre
  have htg : ∀ w ∈ oh_t, w.before _ s = true := fun w h => hts w (List.mem_cons_of_mem _ h)
  have hown : s.vm.findClass RX6 = some m.cls := findClass_of_methodNamed B.named
  have hlocks := B.notSynchronized
  have hT0 := hT
  have hS : va_S (fun _ => False) s.heap s.heap [] := va_S.rf
  have hl := lv_entry ([.ref (a 0), .int x1]) (n := 2) (Nat.le_of_ble_eq_true rfl)
  rw [lg_entry_eq]
  generalize (lg_sl ([.ref (a 0), .int x1]) ++ List.replicate (2 - (lg_sl ([.ref (a 0), .int x1])).length) Slot.unset).toArray = ls at hl ⊢
  have hl : lv_has ls 2 [(0, .ref (a 0)), (1, .int x1)] := hl
  refine oh_genQ (fun Q hQ => ?_)
  refine lv_iload_n hx hb dX6_isBridge_0 rfl (lv_at hl 1 rfl) ?_
  refine lv_iconst (v := 0) hx hb dX6_isBridge_1 (by decide) ?_
  refine lv_aload_n hx hb dX6_isBridge_2 rfl (lv_at hl 0 rfl) ?_
  refine va_get (D := D) (ci := 6) (v := .ref (a 1)) (C := RX6) (T := TX6) (N := 9) hx hb htg ig_6 hown hK hP 0 (oh_wg (by decide) (sX_0 hT)) rfl 0 (by decide) (htg _ q_258) (fun _ h9 => h9) rfl dX6_isBridge_3 ?_
  refine va_get (D := D) (ci := 0) (v := .ref (a 10)) (C := RX0) (T := TX0) (N := 8) hx hb htg ig_0 hown hK hP 1 (oh_wg (by decide) (sX_1 hT)) rfl 0 (by decide) (htg _ q_100) (fun _ h9 => h9) rfl dX6_isBridge_6 ?_
  refine lv_iconst (v := 1) hx hb dX6_isBridge_9 (by decide) ?_
  refine th_iald hx hb hK hP 10 (by decide) (sX_10 hT) (rg_in (rg_c (v := 1) (lo := 1) (hi := 1) (by decide)) (by decide)) dX6_isBridge_10 ?_
  refine lv_iconst (v := 1) hx hb dX6_isBridge_11 (by decide) ?_
  refine lv_isub hx hb dX6_isBridge_12 ?_
  refine tq_S (As := [.int x1, .int 0, .int ((ga (C 10) ((1 : Int32)).toNatClampNeg) - 1)]) (rest := []) (ws := []) ⟨hx, hb, hml, hown, htg⟩ (c_X6_within l D E G x1 (0 : Int32) ((ga (C 10) ((1 : Int32)).toNatClampNeg) - 1)) (va_cwS 3 htg (oh_gS q_293 q_294 q_66 q_295) rfl rfl rfl pdX6_within ⟨Nat.le_of_ble_eq_true rfl, Nat.le_of_ble_eq_true rfl⟩) hK va_nil hG hS rfl hl.1 rfl (Nat.le_of_ble_eq_true rfl) dX6_isBridge_13 ⟨Nat.le_of_ble_eq_true rfl, Nat.le_of_ble_eq_true rfl⟩ (fun r_1 hq_2 => ?_)
  rw [hQ]
  exact W.zret (v := r_1) (ty := .boolean) hx hb hr (oh_nb hq_2.1) (fun t ht hW => ⟨r_1, rfl, ⟨hq_2.1, (fun h9 => (rg_w (rn_leu (hq_2.2.1 h9).2 (rn_lel (hq_2.2.1 h9).1 (rg_c (v := 0) (lo := 0) (hi := 0) (by decide)) (rg_any _)) (rg_sub (lo := (-1)) (hi := 15) (tA_rdc (lo := 0) (hi := 16) (tX_10 hT0) (rg_in (rg_c (v := 1) (lo := 1) (hi := 1) (by decide)) (by decide)) (show _ = 1 by decide) (by decide)) (rg_c (v := 1) (lo := 1) (hi := 1) (by decide)) (by decide))) (by decide)))⟩, ht⟩) (fun q h => by cases h) dX6_isBridge_16

set_option maxHeartbeats 4000000 in
set_option maxRecDepth 100000 in
theorem c_X6_isWaggon (l : Launch) (D : va_G) (E : Nat → ClassId) (G : Nat → Nat) (a : Nat → Nat) (C : Nat → va_E) (hT : TyX a E C) (x1 : Int32) : Met l yX6_isWaggon (oh_w yX6_isWaggon cX6_isWaggon 2 (some .boolean)) ({ frames := 1, cells := 0, slots := 0, locals := 22 }) (oh_Pp D E G [.ref (a 0), .int x1] (oh_W 35 a C)) (vp_Si (fun r => (r = 0 ∨ r = 1) ∧ (r ≠ 0 → rg x1 0 4))) 0 0 (fun _ => False) := by
  refine Met.ofW (cc := cX6_isWaggon) (maxL := 2) (ret := (some .boolean)) (by decide) rfl ?_
  intro p e s m args below meth c s₁ B hml hv
  obtain ⟨rfl, hP, hK, hG⟩ := hv
  have hx := B.exec
  have hb := B.bytes
  have hr := B.returns
  have hts := atoms_spec (ws := (oh_w yX6_isWaggon cX6_isWaggon 2 (some .boolean))) B.pre
  have htg : ∀ w ∈ oh_t, w.before _ s = true := fun w h => hts w (List.mem_cons_of_mem _ h)
  have hown : s.vm.findClass RX6 = some m.cls := findClass_of_methodNamed B.named
  have hlocks := B.notSynchronized
  have hT0 := hT
  have hS : va_S (fun _ => False) s.heap s.heap [] := va_S.rf
  have hl := lv_entry ([.ref (a 0), .int x1]) (n := 2) (Nat.le_of_ble_eq_true rfl)
  rw [lg_entry_eq]
  generalize (lg_sl ([.ref (a 0), .int x1]) ++ List.replicate (2 - (lg_sl ([.ref (a 0), .int x1])).length) Slot.unset).toArray = ls at hl ⊢
  have hl : lv_has ls 2 [(0, .ref (a 0)), (1, .int x1)] := hl
  refine oh_genQ (fun Q hQ => ?_)
  refine lv_iload_n hx hb dX6_isWaggon_0 rfl (lv_at hl 1 rfl) ?_
  refine lv_iconst (v := 0) hx hb dX6_isWaggon_1 (by decide) ?_
  refine lv_aload_n hx hb dX6_isWaggon_2 rfl (lv_at hl 0 rfl) ?_
  refine va_get (D := D) (ci := 6) (v := .ref (a 1)) (C := RX6) (T := TX6) (N := 9) hx hb htg ig_6 hown hK hP 0 (oh_wg (by decide) (sX_0 hT)) rfl 0 (by decide) (htg _ q_258) (fun _ h9 => h9) rfl dX6_isWaggon_3 ?_
  refine va_get (D := D) (ci := 0) (v := .ref (a 10)) (C := RX0) (T := TX0) (N := 8) hx hb htg ig_0 hown hK hP 1 (oh_wg (by decide) (sX_1 hT)) rfl 0 (by decide) (htg _ q_100) (fun _ h9 => h9) rfl dX6_isWaggon_6 ?_
  refine lv_iconst (v := 2) hx hb dX6_isWaggon_9 (by decide) ?_
  refine th_iald hx hb hK hP 10 (by decide) (sX_10 hT) (rg_in (rg_c (v := 2) (lo := 2) (hi := 2) (by decide)) (by decide)) dX6_isWaggon_10 ?_
  refine lv_iconst (v := 1) hx hb dX6_isWaggon_11 (by decide) ?_
  refine lv_isub hx hb dX6_isWaggon_12 ?_
  refine tq_S (As := [.int x1, .int 0, .int ((ga (C 10) ((2 : Int32)).toNatClampNeg) - 1)]) (rest := []) (ws := []) ⟨hx, hb, hml, hown, htg⟩ (c_X6_within l D E G x1 (0 : Int32) ((ga (C 10) ((2 : Int32)).toNatClampNeg) - 1)) (va_cwS 3 htg (oh_gS q_293 q_294 q_66 q_295) rfl rfl rfl pdX6_within ⟨Nat.le_of_ble_eq_true rfl, Nat.le_of_ble_eq_true rfl⟩) hK va_nil hG hS rfl hl.1 rfl (Nat.le_of_ble_eq_true rfl) dX6_isWaggon_13 ⟨Nat.le_of_ble_eq_true rfl, Nat.le_of_ble_eq_true rfl⟩ (fun r_1 hq_2 => ?_)
  rw [hQ]
  exact W.zret (v := r_1) (ty := .boolean) hx hb hr (oh_nb hq_2.1) (fun t ht hW => ⟨r_1, rfl, ⟨hq_2.1, (fun h9 => (rg_w (rn_leu (hq_2.2.1 h9).2 (rn_lel (hq_2.2.1 h9).1 (rg_c (v := 0) (lo := 0) (hi := 0) (by decide)) (rg_any _)) (rg_sub (lo := (-1)) (hi := 4) (tA_rdc (lo := 0) (hi := 5) (tX_10 hT0) (rg_in (rg_c (v := 2) (lo := 2) (hi := 2) (by decide)) (by decide)) (show _ = 2 by decide) (by decide)) (rg_c (v := 1) (lo := 1) (hi := 1) (by decide)) (by decide))) (by decide)))⟩, ht⟩) (fun q h => by cases h) dX6_isWaggon_16

set_option maxHeartbeats 4000000 in
set_option maxRecDepth 100000 in
theorem c_X6_isPack (l : Launch) (D : va_G) (E : Nat → ClassId) (G : Nat → Nat) (a : Nat → Nat) (C : Nat → va_E) (hT : TyX a E C) (x1 : Int32) (x2 : Int32) : Met l yX6_isPack (oh_w yX6_isPack cX6_isPack 3 (some .boolean)) ({ frames := 2, cells := 0, slots := 0, locals := 43 }) (oh_Pp D E G [.ref (a 0), .int x1, .int x2] (oh_W 35 a C)) (vp_Si (fun r => (r = 0 ∨ r = 1) ∧ (r ≠ 0 → rg x1 0 4))) 0 0 (fun _ => False) := by
  refine Met.ofW (cc := cX6_isPack) (maxL := 3) (ret := (some .boolean)) (by decide) rfl ?_
  intro p e s m args below meth c s₁ B hml hv
  obtain ⟨rfl, hP, hK, hG⟩ := hv
  have hx := B.exec
  have hb := B.bytes
  have hr := B.returns
  have hts := atoms_spec (ws := (oh_w yX6_isPack cX6_isPack 3 (some .boolean))) B.pre
  have htg : ∀ w ∈ oh_t, w.before _ s = true := fun w h => hts w (List.mem_cons_of_mem _ h)
  have hown : s.vm.findClass RX6 = some m.cls := findClass_of_methodNamed B.named
  have hlocks := B.notSynchronized
  have hT0 := hT
  have hS : va_S (fun _ => False) s.heap s.heap [] := va_S.rf
  have hl := lv_entry ([.ref (a 0), .int x1, .int x2]) (n := 3) (Nat.le_of_ble_eq_true rfl)
  rw [lg_entry_eq]
  generalize (lg_sl ([.ref (a 0), .int x1, .int x2]) ++ List.replicate (3 - (lg_sl ([.ref (a 0), .int x1, .int x2])).length) Slot.unset).toArray = ls at hl ⊢
  have hl : lv_has ls 3 [(0, .ref (a 0)), (1, .int x1), (2, .int x2)] := hl
  refine oh_genQ (fun Q hQ => ?_)
  refine lv_aload_n hx hb dX6_isPack_0 rfl (lv_at hl 0 rfl) ?_
  refine lv_iload_n hx hb dX6_isPack_1 rfl (lv_at hl 1 rfl) ?_
  refine tq_V (As := [.int x1]) (rest := []) (ws := (oh_W 35 a C)) ⟨hx, hb, hml, hown, htg⟩ (c_X6_isWaggon l D E G a C hT x1) (cwV 1 htg (oh_gV q_679 q_681 q_15 q_66 q_682) rfl rfl rfl pdVX6_isWaggon ⟨Nat.le_of_ble_eq_true rfl, Nat.le_of_ble_eq_true rfl⟩) hK hP hG hS (va_recv hK hP (ci := 6) (q0 := 0) rfl (oh_wg (by decide) (sX_0 hT))) rfl hl.1 rfl (Nat.le_of_ble_eq_true rfl) dX6_isPack_2 ⟨Nat.le_of_ble_eq_true rfl, Nat.le_of_ble_eq_true rfl⟩ (fun r_1 hq_2 => ?_)
  refine lv_if_eq (tgt := 29) hx hb dX6_isPack_5 (by decide) (fun (c_3 : r_1 = 0) => ?_) (fun (c_3 : ¬ (r_1 = 0)) => ?_)
  · refine lv_iconst (v := 0) hx hb dX6_isPack_29 (by decide) ?_
    rw [hQ]
    exact W.zret (v := 0) (ty := .boolean) hx hb hr (by decide) (fun t ht hW => ⟨0, rfl, ⟨(Or.inl rfl), (fun h9 => absurd rfl h9)⟩, ht⟩) (fun q h => by cases h) dX6_isPack_30
  · have u_4 := hq_2.2 c_3
    refine lv_iload_n hx hb dX6_isPack_8 rfl (lv_at hl 2 rfl) ?_
    refine lv_iconst (v := 0) hx hb dX6_isPack_9 (by decide) ?_
    refine lv_aload_n hx hb dX6_isPack_10 rfl (lv_at hl 0 rfl) ?_
    refine va_get (D := D) (ci := 6) (v := .ref (a 1)) (C := RX6) (T := TX6) (N := 9) hx hb htg ig_6 hown hK hP 0 (oh_wg (by decide) (sX_0 hT)) rfl 0 (by decide) (htg _ q_258) (fun _ h9 => h9) rfl dX6_isPack_11 ?_
    refine tq_V (As := []) (rest := [.int 0, .int x2]) (ws := (oh_W 35 a C)) ⟨hx, hb, hml, hown, htg⟩ (c_X0_setsOfParts l D E G a C hT) (cwV 0 htg (oh_gV q_699 q_700 q_701 q_67 q_702) rfl rfl rfl pdVX0_setsOfParts ⟨Nat.le_of_ble_eq_true rfl, Nat.le_of_ble_eq_true rfl⟩) hK hP hG hS (va_recv hK hP (ci := 0) (q0 := 1) rfl (oh_wg (by decide) (sX_1 hT))) rfl hl.1 rfl (Nat.le_of_ble_eq_true rfl) dX6_isPack_14 ⟨Nat.le_of_ble_eq_true rfl, Nat.le_of_ble_eq_true rfl⟩ (fun r_5 hq_6 => ?_)
    refine lv_iconst (v := 1) hx hb dX6_isPack_17 (by decide) ?_
    refine lv_isub hx hb dX6_isPack_18 ?_
    refine tq_S (As := [.int x2, .int 0, .int (r_5 - 1)]) (rest := []) (ws := []) ⟨hx, hb, hml, hown, htg⟩ (c_X6_within l D E G x2 (0 : Int32) (r_5 - 1)) (va_cwS 3 htg (oh_gS q_293 q_294 q_66 q_295) rfl rfl rfl pdX6_within ⟨Nat.le_of_ble_eq_true rfl, Nat.le_of_ble_eq_true rfl⟩) hK va_nil hG hS rfl hl.1 rfl (Nat.le_of_ble_eq_true rfl) dX6_isPack_19 ⟨Nat.le_of_ble_eq_true rfl, Nat.le_of_ble_eq_true rfl⟩ (fun r_7 hq_8 => ?_)
    refine lv_if_eq (tgt := 29) hx hb dX6_isPack_22 (by decide) (fun (c_9 : r_7 = 0) => ?_) (fun (c_9 : ¬ (r_7 = 0)) => ?_)
    · have u_10 := hq_8.2.2 c_9
      refine lv_iconst (v := 0) hx hb dX6_isPack_29 (by decide) ?_
      rw [hQ]
      exact W.zret (v := 0) (ty := .boolean) hx hb hr (by decide) (fun t ht hW => ⟨0, rfl, ⟨(Or.inl rfl), (fun h9 => absurd rfl h9)⟩, ht⟩) (fun q h => by cases h) dX6_isPack_30
    · have u_11 := hq_8.2.1 c_9
      refine lv_iconst (v := 1) hx hb dX6_isPack_25 (by decide) ?_
      refine lv_goto (tgt := 30) hx hb dX6_isPack_26 (by decide) ?_
      rw [hQ]
      exact W.zret (v := 1) (ty := .boolean) hx hb hr (by decide) (fun t ht hW => ⟨1, rfl, ⟨(Or.inr rfl), (fun _ => (rg_w u_4 (by decide)))⟩, ht⟩) (fun q h => by cases h) dX6_isPack_30

set_option maxHeartbeats 4000000 in
set_option maxRecDepth 100000 in
theorem c_X6_isJourney (l : Launch) (D : va_G) (E : Nat → ClassId) (G : Nat → Nat) (a : Nat → Nat) (C : Nat → va_E) (hT : TyX a E C) (x1 : Int32) (x2 : Int32) (x3 : Int32) (x4 : Int32) : Met l yX6_isJourney (oh_w yX6_isJourney cX6_isJourney 5 (some .boolean)) ({ frames := 3, cells := 0, slots := 0, locals := 65 }) (oh_Pp D E G [.ref (a 0), .int x1, .int x2, .int x3, .int x4] (oh_W 35 a C)) (vp_Si (fun r => (r = 0 ∨ r = 1) ∧ (r ≠ 0 → rg x1 0 4 ∧ rg x3 0 15 ∧ rg x4 0 15))) 0 0 (fun _ => False) := by
  refine Met.ofW (cc := cX6_isJourney) (maxL := 5) (ret := (some .boolean)) (by decide) rfl ?_
  intro p e s m args below meth c s₁ B hml hv
  obtain ⟨rfl, hP, hK, hG⟩ := hv
  have hx := B.exec
  have hb := B.bytes
  have hr := B.returns
  have hts := atoms_spec (ws := (oh_w yX6_isJourney cX6_isJourney 5 (some .boolean))) B.pre
  have htg : ∀ w ∈ oh_t, w.before _ s = true := fun w h => hts w (List.mem_cons_of_mem _ h)
  have hown : s.vm.findClass RX6 = some m.cls := findClass_of_methodNamed B.named
  have hlocks := B.notSynchronized
  have hT0 := hT
  have hS : va_S (fun _ => False) s.heap s.heap [] := va_S.rf
  have hl := lv_entry ([.ref (a 0), .int x1, .int x2, .int x3, .int x4]) (n := 5) (Nat.le_of_ble_eq_true rfl)
  rw [lg_entry_eq]
  generalize (lg_sl ([.ref (a 0), .int x1, .int x2, .int x3, .int x4]) ++ List.replicate (5 - (lg_sl ([.ref (a 0), .int x1, .int x2, .int x3, .int x4])).length) Slot.unset).toArray = ls at hl ⊢
  have hl : lv_has ls 5 [(0, .ref (a 0)), (1, .int x1), (2, .int x2), (3, .int x3), (4, .int x4)] := hl
  refine oh_genQ (fun Q hQ => ?_)
  refine lv_aload_n hx hb dX6_isJourney_0 rfl (lv_at hl 0 rfl) ?_
  refine lv_iload_n hx hb dX6_isJourney_1 rfl (lv_at hl 1 rfl) ?_
  refine lv_iload_n hx hb dX6_isJourney_2 rfl (lv_at hl 2 rfl) ?_
  refine tq_V (As := [.int x1, .int x2]) (rest := []) (ws := (oh_W 35 a C)) ⟨hx, hb, hml, hown, htg⟩ (c_X6_isPack l D E G a C hT x1 x2) (cwV 2 htg (oh_gV q_695 q_697 q_16 q_66 q_698) rfl rfl rfl pdVX6_isPack ⟨Nat.le_of_ble_eq_true rfl, Nat.le_of_ble_eq_true rfl⟩) hK hP hG hS (va_recv hK hP (ci := 6) (q0 := 0) rfl (oh_wg (by decide) (sX_0 hT))) rfl hl.1 rfl (Nat.le_of_ble_eq_true rfl) dX6_isJourney_3 ⟨Nat.le_of_ble_eq_true rfl, Nat.le_of_ble_eq_true rfl⟩ (fun r_1 hq_2 => ?_)
  refine lv_if_eq (tgt := 28) hx hb dX6_isJourney_6 (by decide) (fun (c_3 : r_1 = 0) => ?_) (fun (c_3 : ¬ (r_1 = 0)) => ?_)
  · refine lv_iconst (v := 0) hx hb dX6_isJourney_28 (by decide) ?_
    rw [hQ]
    exact W.zret (v := 0) (ty := .boolean) hx hb hr (by decide) (fun t ht hW => ⟨0, rfl, ⟨(Or.inl rfl), (fun h9 => absurd rfl h9)⟩, ht⟩) (fun q h => by cases h) dX6_isJourney_29
  · have u_4 := hq_2.2 c_3
    refine lv_iload_n hx hb dX6_isJourney_9 rfl (lv_at hl 3 rfl) ?_
    refine tq_S (As := [.int x3]) (rest := []) (ws := []) ⟨hx, hb, hml, hown, htg⟩ (c_X6_isPlace l D E G x3) (va_cwS 1 htg (oh_gS q_413 q_414 q_66 q_415) rfl rfl rfl pdX6_isPlace ⟨Nat.le_of_ble_eq_true rfl, Nat.le_of_ble_eq_true rfl⟩) hK va_nil hG hS rfl hl.1 rfl (Nat.le_of_ble_eq_true rfl) dX6_isJourney_10 ⟨Nat.le_of_ble_eq_true rfl, Nat.le_of_ble_eq_true rfl⟩ (fun r_5 hq_6 => ?_)
    refine lv_if_eq (tgt := 28) hx hb dX6_isJourney_13 (by decide) (fun (c_7 : r_5 = 0) => ?_) (fun (c_7 : ¬ (r_5 = 0)) => ?_)
    · refine lv_iconst (v := 0) hx hb dX6_isJourney_28 (by decide) ?_
      rw [hQ]
      exact W.zret (v := 0) (ty := .boolean) hx hb hr (by decide) (fun t ht hW => ⟨0, rfl, ⟨(Or.inl rfl), (fun h9 => absurd rfl h9)⟩, ht⟩) (fun q h => by cases h) dX6_isJourney_29
    · have u_8 := hq_6.2 c_7
      refine lv_iload hx hb dX6_isJourney_16 (lv_at hl 4 rfl) ?_
      refine tq_S (As := [.int x4]) (rest := []) (ws := []) ⟨hx, hb, hml, hown, htg⟩ (c_X6_isPlace l D E G x4) (va_cwS 1 htg (oh_gS q_413 q_414 q_66 q_415) rfl rfl rfl pdX6_isPlace ⟨Nat.le_of_ble_eq_true rfl, Nat.le_of_ble_eq_true rfl⟩) hK va_nil hG hS rfl hl.1 rfl (Nat.le_of_ble_eq_true rfl) dX6_isJourney_18 ⟨Nat.le_of_ble_eq_true rfl, Nat.le_of_ble_eq_true rfl⟩ (fun r_9 hq_10 => ?_)
      refine lv_if_eq (tgt := 28) hx hb dX6_isJourney_21 (by decide) (fun (c_11 : r_9 = 0) => ?_) (fun (c_11 : ¬ (r_9 = 0)) => ?_)
      · refine lv_iconst (v := 0) hx hb dX6_isJourney_28 (by decide) ?_
        rw [hQ]
        exact W.zret (v := 0) (ty := .boolean) hx hb hr (by decide) (fun t ht hW => ⟨0, rfl, ⟨(Or.inl rfl), (fun h9 => absurd rfl h9)⟩, ht⟩) (fun q h => by cases h) dX6_isJourney_29
      · have u_12 := hq_10.2 c_11
        refine lv_iconst (v := 1) hx hb dX6_isJourney_24 (by decide) ?_
        refine lv_goto (tgt := 29) hx hb dX6_isJourney_25 (by decide) ?_
        rw [hQ]
        exact W.zret (v := 1) (ty := .boolean) hx hb hr (by decide) (fun t ht hW => ⟨1, rfl, ⟨(Or.inr rfl), (fun _ => ⟨(rg_w u_4 (by decide)), (rg_w u_8 (by decide)), (rg_w u_12 (by decide))⟩)⟩, ht⟩) (fun q h => by cases h) dX6_isJourney_29

set_option maxHeartbeats 4000000 in
set_option maxRecDepth 100000 in
theorem c_X6_whyNoRow (l : Launch) (D : va_G) (E : Nat → ClassId) (G : Nat → Nat) (a : Nat → Nat) (C : Nat → va_E) (hT : TyX a E C) (x1 : Int32) : Met l yX6_whyNoRow (oh_w yX6_whyNoRow cX6_whyNoRow 2 (some .int)) ({ frames := 2, cells := 0, slots := 0, locals := 42 }) (oh_Pp D E G [.ref (a 0), .int x1] (oh_W 35 a C)) (vp_Si (fun r => (r = 0 → rg x1 0 7))) 0 0 (fun _ => False) := by
  refine Met.ofW (cc := cX6_whyNoRow) (maxL := 2) (ret := (some .int)) (by decide) rfl ?_
  intro p e s m args below meth c s₁ B hml hv
  obtain ⟨rfl, hP, hK, hG⟩ := hv
  have hx := B.exec
  have hb := B.bytes
  have hr := B.returns
  have hts := atoms_spec (ws := (oh_w yX6_whyNoRow cX6_whyNoRow 2 (some .int))) B.pre
  have htg : ∀ w ∈ oh_t, w.before _ s = true := fun w h => hts w (List.mem_cons_of_mem _ h)
  have hown : s.vm.findClass RX6 = some m.cls := findClass_of_methodNamed B.named
  have hlocks := B.notSynchronized
  have hT0 := hT
  have hS : va_S (fun _ => False) s.heap s.heap [] := va_S.rf
  have hl := lv_entry ([.ref (a 0), .int x1]) (n := 2) (Nat.le_of_ble_eq_true rfl)
  rw [lg_entry_eq]
  generalize (lg_sl ([.ref (a 0), .int x1]) ++ List.replicate (2 - (lg_sl ([.ref (a 0), .int x1])).length) Slot.unset).toArray = ls at hl ⊢
  have hl : lv_has ls 2 [(0, .ref (a 0)), (1, .int x1)] := hl
  refine oh_genQ (fun Q hQ => ?_)
  refine lv_iload_n hx hb dX6_whyNoRow_0 rfl (lv_at hl 1 rfl) ?_
  refine tq_S (As := [.int x1]) (rest := []) (ws := []) ⟨hx, hb, hml, hown, htg⟩ (c_X6_isShelf l D E G x1) (va_cwS 1 htg (oh_gS q_290 q_291 q_66 q_292) rfl rfl rfl pdX6_isShelf ⟨Nat.le_of_ble_eq_true rfl, Nat.le_of_ble_eq_true rfl⟩) hK va_nil hG hS rfl hl.1 rfl (Nat.le_of_ble_eq_true rfl) dX6_whyNoRow_1 ⟨Nat.le_of_ble_eq_true rfl, Nat.le_of_ble_eq_true rfl⟩ (fun r_1 hq_2 => ?_)
  refine lv_if_ne (tgt := 10) hx hb dX6_whyNoRow_4 (by decide) (fun (c_3 : ¬ (r_1 = 0)) => ?_) (fun (c_3 : r_1 = 0) => ?_)
  · have u_4 := hq_2.2.1 c_3
    refine lv_aload_n hx hb dX6_whyNoRow_10 rfl (lv_at hl 0 rfl) ?_
    refine va_get (D := D) (ci := 6) (v := .ref (a 4)) (C := RX6) (T := TX6) (N := 9) hx hb htg ig_6 hown hK hP 0 (oh_wg (by decide) (sX_0 hT)) rfl 4 (by decide) (htg _ q_262) (fun _ h9 => h9) rfl dX6_whyNoRow_11 ?_
    refine lv_iload_n hx hb dX6_whyNoRow_14 rfl (lv_at hl 1 rfl) ?_
    refine tq_V (As := [.int x1]) (rest := []) (ws := (oh_W 35 a C)) ⟨hx, hb, hml, hown, htg⟩ (c_X3_holdsBridge l D E G a C hT x1 (rg_w u_4 (by decide))) (cwV 1 htg (oh_gV q_312 q_313 q_314 q_70 q_315) rfl rfl rfl pdVX3_holdsBridge ⟨Nat.le_of_ble_eq_true rfl, Nat.le_of_ble_eq_true rfl⟩) hK hP hG hS (va_recv hK hP (ci := 3) (q0 := 4) rfl (oh_wg (by decide) (sX_4 hT))) rfl hl.1 rfl (Nat.le_of_ble_eq_true rfl) dX6_whyNoRow_15 ⟨Nat.le_of_ble_eq_true rfl, Nat.le_of_ble_eq_true rfl⟩ (fun r_5 hq_6 => ?_)
    refine lv_if_eq (tgt := 24) hx hb dX6_whyNoRow_18 (by decide) (fun (c_7 : r_5 = 0) => ?_) (fun (c_7 : ¬ (r_5 = 0)) => ?_)
    · refine lv_aload_n hx hb dX6_whyNoRow_24 rfl (lv_at hl 0 rfl) ?_
      refine va_get (D := D) (ci := 6) (v := .ref (a 4)) (C := RX6) (T := TX6) (N := 9) hx hb htg ig_6 hown hK hP 0 (oh_wg (by decide) (sX_0 hT)) rfl 4 (by decide) (htg _ q_262) (fun _ h9 => h9) rfl dX6_whyNoRow_25 ?_
      refine lv_iload_n hx hb dX6_whyNoRow_28 rfl (lv_at hl 1 rfl) ?_
      refine tq_V (As := [.int x1]) (rest := []) (ws := (oh_W 35 a C)) ⟨hx, hb, hml, hown, htg⟩ (c_X3_holdsNothing l D E G a C hT x1 (rg_w u_4 (by decide))) (cwV 1 htg (oh_gV q_316 q_317 q_318 q_70 q_319) rfl rfl rfl pdVX3_holdsNothing ⟨Nat.le_of_ble_eq_true rfl, Nat.le_of_ble_eq_true rfl⟩) hK hP hG hS (va_recv hK hP (ci := 3) (q0 := 4) rfl (oh_wg (by decide) (sX_4 hT))) rfl hl.1 rfl (Nat.le_of_ble_eq_true rfl) dX6_whyNoRow_29 ⟨Nat.le_of_ble_eq_true rfl, Nat.le_of_ble_eq_true rfl⟩ (fun r_8 hq_9 => ?_)
      refine lv_if_eq (tgt := 40) hx hb dX6_whyNoRow_32 (by decide) (fun (c_10 : r_8 = 0) => ?_) (fun (c_10 : ¬ (r_8 = 0)) => ?_)
      · refine lv_iconst (v := 0) hx hb dX6_whyNoRow_40 (by decide) ?_
        rw [hQ]
        exact W.iret (v := 0) hx hb hr (fun t ht hW => ⟨0, rfl, (fun _ => (rg_w u_4 (by decide))), ht⟩) (fun q h => by cases h) dX6_whyNoRow_41
      · refine lv_bipush (v := (-4)) hx hb dX6_whyNoRow_35 (by decide) ?_
        refine lv_goto (tgt := 41) hx hb dX6_whyNoRow_37 (by decide) ?_
        rw [hQ]
        exact W.iret (v := (-4)) hx hb hr (fun t ht hW => ⟨(-4), rfl, (fun h9 => absurd h9 (by decide)), ht⟩) (fun q h => by cases h) dX6_whyNoRow_41
    · refine lv_bipush (v := (-3)) hx hb dX6_whyNoRow_21 (by decide) ?_
      rw [hQ]
      exact W.iret (v := (-3)) hx hb hr (fun t ht hW => ⟨(-3), rfl, (fun h9 => absurd h9 (by decide)), ht⟩) (fun q h => by cases h) dX6_whyNoRow_23
  · have u_11 := hq_2.2.2 c_3
    refine lv_bipush (v := (-2)) hx hb dX6_whyNoRow_7 (by decide) ?_
    rw [hQ]
    exact W.iret (v := (-2)) hx hb hr (fun t ht hW => ⟨(-2), rfl, (fun h9 => absurd h9 (by decide)), ht⟩) (fun q h => by cases h) dX6_whyNoRow_9

set_option maxHeartbeats 4000000 in
set_option maxRecDepth 100000 in
theorem c_X6_whyNotTold (l : Launch) (D : va_G) (E : Nat → ClassId) (G : Nat → Nat) (a : Nat → Nat) (C : Nat → va_E) (hT : TyX a E C) (x1 : Int32) (x2 : Int32) (x3 : Int32) (x4 : Int32) (x5 : Int32) : Met l yX6_whyNotTold (oh_w yX6_whyNotTold cX6_whyNotTold 7 (some .int)) ({ frames := 3, cells := 0, slots := 0, locals := 65 }) (oh_Pp D E G [.ref (a 0), .int x1, .int x2, .int x3, .int x4, .int x5] (oh_W 35 a C)) (vp_Si (fun r => (r = 0 → rg x1 0 4 ∧ rg x3 0 15 ∧ rg x4 0 7 ∧ rg x5 0 20))) 0 0 (fun _ => False) := by
  refine Met.ofW (cc := cX6_whyNotTold) (maxL := 7) (ret := (some .int)) (by decide) rfl ?_
  intro p e s m args below meth c s₁ B hml hv
  obtain ⟨rfl, hP, hK, hG⟩ := hv
  have hx := B.exec
  have hb := B.bytes
  have hr := B.returns
  have hts := atoms_spec (ws := (oh_w yX6_whyNotTold cX6_whyNotTold 7 (some .int))) B.pre
  have htg : ∀ w ∈ oh_t, w.before _ s = true := fun w h => hts w (List.mem_cons_of_mem _ h)
  have hown : s.vm.findClass RX6 = some m.cls := findClass_of_methodNamed B.named
  have hlocks := B.notSynchronized
  have hT0 := hT
  have hS : va_S (fun _ => False) s.heap s.heap [] := va_S.rf
  have hl := lv_entry ([.ref (a 0), .int x1, .int x2, .int x3, .int x4, .int x5]) (n := 7) (Nat.le_of_ble_eq_true rfl)
  rw [lg_entry_eq]
  generalize (lg_sl ([.ref (a 0), .int x1, .int x2, .int x3, .int x4, .int x5]) ++ List.replicate (7 - (lg_sl ([.ref (a 0), .int x1, .int x2, .int x3, .int x4, .int x5])).length) Slot.unset).toArray = ls at hl ⊢
  have hl : lv_has ls 7 [(0, .ref (a 0)), (1, .int x1), (2, .int x2), (3, .int x3), (4, .int x4), (5, .int x5)] := hl
  refine oh_genQ (fun Q hQ => ?_)
  refine lv_aload_n hx hb dX6_whyNotTold_0 rfl (lv_at hl 0 rfl) ?_
  refine lv_iload_n hx hb dX6_whyNotTold_1 rfl (lv_at hl 1 rfl) ?_
  refine lv_iload_n hx hb dX6_whyNotTold_2 rfl (lv_at hl 2 rfl) ?_
  refine tq_V (As := [.int x1, .int x2]) (rest := []) (ws := (oh_W 35 a C)) ⟨hx, hb, hml, hown, htg⟩ (c_X6_isPack l D E G a C hT x1 x2) (cwV 2 htg (oh_gV q_695 q_697 q_16 q_66 q_698) rfl rfl rfl pdVX6_isPack ⟨Nat.le_of_ble_eq_true rfl, Nat.le_of_ble_eq_true rfl⟩) hK hP hG hS (va_recv hK hP (ci := 6) (q0 := 0) rfl (oh_wg (by decide) (sX_0 hT))) rfl hl.1 rfl (Nat.le_of_ble_eq_true rfl) dX6_whyNotTold_3 ⟨Nat.le_of_ble_eq_true rfl, Nat.le_of_ble_eq_true rfl⟩ (fun r_1 hq_2 => ?_)
  refine lv_if_eq (tgt := 35) hx hb dX6_whyNotTold_6 (by decide) (fun (c_3 : r_1 = 0) => ?_) (fun (c_3 : ¬ (r_1 = 0)) => ?_)
  · refine lv_bipush (v := (-2)) hx hb dX6_whyNotTold_35 (by decide) ?_
    rw [hQ]
    exact W.iret (v := (-2)) hx hb hr (fun t ht hW => ⟨(-2), rfl, (fun h9 => absurd h9 (by decide)), ht⟩) (fun q h => by cases h) dX6_whyNotTold_37
  · have u_4 := hq_2.2 c_3
    refine lv_iload_n hx hb dX6_whyNotTold_9 rfl (lv_at hl 3 rfl) ?_
    refine tq_S (As := [.int x3]) (rest := []) (ws := []) ⟨hx, hb, hml, hown, htg⟩ (c_X6_isPlace l D E G x3) (va_cwS 1 htg (oh_gS q_413 q_414 q_66 q_415) rfl rfl rfl pdX6_isPlace ⟨Nat.le_of_ble_eq_true rfl, Nat.le_of_ble_eq_true rfl⟩) hK va_nil hG hS rfl hl.1 rfl (Nat.le_of_ble_eq_true rfl) dX6_whyNotTold_10 ⟨Nat.le_of_ble_eq_true rfl, Nat.le_of_ble_eq_true rfl⟩ (fun r_5 hq_6 => ?_)
    refine lv_if_eq (tgt := 35) hx hb dX6_whyNotTold_13 (by decide) (fun (c_7 : r_5 = 0) => ?_) (fun (c_7 : ¬ (r_5 = 0)) => ?_)
    · refine lv_bipush (v := (-2)) hx hb dX6_whyNotTold_35 (by decide) ?_
      rw [hQ]
      exact W.iret (v := (-2)) hx hb hr (fun t ht hW => ⟨(-2), rfl, (fun h9 => absurd h9 (by decide)), ht⟩) (fun q h => by cases h) dX6_whyNotTold_37
    · have u_8 := hq_6.2 c_7
      refine lv_iload hx hb dX6_whyNotTold_16 (lv_at hl 4 rfl) ?_
      refine tq_S (As := [.int x4]) (rest := []) (ws := []) ⟨hx, hb, hml, hown, htg⟩ (c_X6_isShelf l D E G x4) (va_cwS 1 htg (oh_gS q_290 q_291 q_66 q_292) rfl rfl rfl pdX6_isShelf ⟨Nat.le_of_ble_eq_true rfl, Nat.le_of_ble_eq_true rfl⟩) hK va_nil hG hS rfl hl.1 rfl (Nat.le_of_ble_eq_true rfl) dX6_whyNotTold_18 ⟨Nat.le_of_ble_eq_true rfl, Nat.le_of_ble_eq_true rfl⟩ (fun r_9 hq_10 => ?_)
      refine lv_if_eq (tgt := 35) hx hb dX6_whyNotTold_21 (by decide) (fun (c_11 : r_9 = 0) => ?_) (fun (c_11 : ¬ (r_9 = 0)) => ?_)
      · have u_12 := hq_10.2.2 c_11
        refine lv_bipush (v := (-2)) hx hb dX6_whyNotTold_35 (by decide) ?_
        rw [hQ]
        exact W.iret (v := (-2)) hx hb hr (fun t ht hW => ⟨(-2), rfl, (fun h9 => absurd h9 (by decide)), ht⟩) (fun q h => by cases h) dX6_whyNotTold_37
      · have u_13 := hq_10.2.1 c_11
        refine lv_iload hx hb dX6_whyNotTold_24 (lv_at hl 5 rfl) ?_
        refine lv_iconst (v := 0) hx hb dX6_whyNotTold_26 (by decide) ?_
        refine lv_bipush (v := 20) hx hb dX6_whyNotTold_27 (by decide) ?_
        refine tq_S (As := [.int x5, .int 0, .int 20]) (rest := []) (ws := []) ⟨hx, hb, hml, hown, htg⟩ (c_X6_within l D E G x5 (0 : Int32) (20 : Int32)) (va_cwS 3 htg (oh_gS q_293 q_294 q_66 q_295) rfl rfl rfl pdX6_within ⟨Nat.le_of_ble_eq_true rfl, Nat.le_of_ble_eq_true rfl⟩) hK va_nil hG hS rfl hl.1 rfl (Nat.le_of_ble_eq_true rfl) dX6_whyNotTold_29 ⟨Nat.le_of_ble_eq_true rfl, Nat.le_of_ble_eq_true rfl⟩ (fun r_14 hq_15 => ?_)
        refine lv_if_ne (tgt := 38) hx hb dX6_whyNotTold_32 (by decide) (fun (c_16 : ¬ (r_14 = 0)) => ?_) (fun (c_16 : r_14 = 0) => ?_)
        · have u_17 := hq_15.2.1 c_16
          refine lv_aload_n hx hb dX6_whyNotTold_38 rfl (lv_at hl 0 rfl) ?_
          refine lv_iload hx hb dX6_whyNotTold_39 (lv_at hl 4 rfl) ?_
          refine tq_V (As := [.int x4]) (rest := []) (ws := (oh_W 35 a C)) ⟨hx, hb, hml, hown, htg⟩ (c_X6_whyNoRow l D E G a C hT x4) (cwV 1 htg (oh_gV q_308 q_310 q_1 q_66 q_311) rfl rfl rfl pdVX6_whyNoRow ⟨Nat.le_of_ble_eq_true rfl, Nat.le_of_ble_eq_true rfl⟩) hK hP hG hS (va_recv hK hP (ci := 6) (q0 := 0) rfl (oh_wg (by decide) (sX_0 hT))) rfl hl.1 rfl (Nat.le_of_ble_eq_true rfl) dX6_whyNotTold_41 ⟨Nat.le_of_ble_eq_true rfl, Nat.le_of_ble_eq_true rfl⟩ (fun r_18 hq_19 => ?_)
          refine lv_istore (lv' := [(6, .int r_18), (0, .ref (a 0)), (1, .int x1), (2, .int x2), (3, .int x3), (4, .int x4), (5, .int x5)]) hx hb dX6_whyNotTold_44 hl (by decide) rfl (fun ls hl => ?_)
          refine lv_iload hx hb dX6_whyNotTold_46 (lv_at hl 0 rfl) ?_
          refine lv_if_eq (tgt := 54) hx hb dX6_whyNotTold_48 (by decide) (fun (c_20 : r_18 = 0) => ?_) (fun (c_20 : ¬ (r_18 = 0)) => ?_)
          · have u_21 := hq_19 c_20
            refine lv_iload hx hb dX6_whyNotTold_54 (lv_at hl 6 rfl) ?_
            refine lv_aload_n hx hb dX6_whyNotTold_56 rfl (lv_at hl 1 rfl) ?_
            refine va_get (D := D) (ci := 6) (v := .ref (a 4)) (C := RX6) (T := TX6) (N := 9) hx hb htg ig_6 hown hK hP 0 (oh_wg (by decide) (sX_0 hT)) rfl 4 (by decide) (htg _ q_262) (fun _ h9 => h9) rfl dX6_whyNotTold_57 ?_
            refine va_get (D := D) (ci := 3) (v := .ref (a 30)) (C := RX3) (T := TX3) (N := 3) hx hb htg ig_3 hown hK hP 4 (oh_wg (by decide) (sX_4 hT)) rfl 1 (by decide) (htg _ q_201) (fun _ h9 => h9) rfl dX6_whyNotTold_60 ?_
            refine lv_iload hx hb dX6_whyNotTold_63 (lv_at hl 5 rfl) ?_
            have n_22 : vp_in x4 8 := (rg_in u_13 (by decide))
            refine th_iald hx hb hK hP 30 (by decide) (sX_30 hT) n_22 dX6_whyNotTold_65 ?_
            refine lv_icmp_le (tgt := 74) hx hb dX6_whyNotTold_66 (by decide) (fun (c_23 : x5 ≤ (ga (C 30) (x4).toNatClampNeg)) => ?_) (fun (c_23 : ¬ (x5 ≤ (ga (C 30) (x4).toNatClampNeg))) => ?_)
            · refine lv_iconst (v := 0) hx hb dX6_whyNotTold_74 (by decide) ?_
              rw [hQ]
              exact W.iret (v := 0) hx hb hr (fun t ht hW => ⟨0, rfl, (fun _ => ⟨(rg_w u_4 (by decide)), (rg_w u_8 (by decide)), (rg_w u_13 (by decide)), (rg_w (rn_leu u_17.2 (rn_lel u_17.1 (rg_c (v := 0) (lo := 0) (hi := 0) (by decide)) (rg_any _)) (rg_c (v := 20) (lo := 20) (hi := 20) (by decide))) (by decide))⟩), ht⟩) (fun q h => by cases h) dX6_whyNotTold_75
            · refine lv_bipush (v := (-2)) hx hb dX6_whyNotTold_69 (by decide) ?_
              refine lv_goto (tgt := 75) hx hb dX6_whyNotTold_71 (by decide) ?_
              rw [hQ]
              exact W.iret (v := (-2)) hx hb hr (fun t ht hW => ⟨(-2), rfl, (fun h9 => absurd h9 (by decide)), ht⟩) (fun q h => by cases h) dX6_whyNotTold_75
          · refine lv_iload hx hb dX6_whyNotTold_51 (lv_at hl 0 rfl) ?_
            rw [hQ]
            exact W.iret (v := r_18) hx hb hr (fun t ht hW => ⟨r_18, rfl, (fun h9 => ⟨(rg_w u_4 (by decide)), (rg_w u_8 (by decide)), (rg_w u_13 (by decide)), (rg_w (rn_leu u_17.2 (rn_lel u_17.1 (rg_c (v := 0) (lo := 0) (hi := 0) (by decide)) (rg_any _)) (rg_c (v := 20) (lo := 20) (hi := 20) (by decide))) (by decide))⟩), ht⟩) (fun q h => by cases h) dX6_whyNotTold_53
        · have u_24 := hq_15.2.2 c_16
          refine lv_bipush (v := (-2)) hx hb dX6_whyNotTold_35 (by decide) ?_
          rw [hQ]
          exact W.iret (v := (-2)) hx hb hr (fun t ht hW => ⟨(-2), rfl, (fun h9 => absurd h9 (by decide)), ht⟩) (fun q h => by cases h) dX6_whyNotTold_37

set_option maxHeartbeats 4000000 in
set_option maxRecDepth 100000 in
theorem c_X6_firstWrong (l : Launch) (D : va_G) (E : Nat → ClassId) (G : Nat → Nat) (sz : Nat) (a : Nat → Nat) (C : Nat → va_E) (hT : TyX a E C) (x1 : Int32) (x2 : Int32) (x3 : Int32) (hx1 : rg x1 0 15) (hx2 : rg x2 0 7) (hx3 : rg x3 0 20) : Met l yX6_firstWrong (oh_w yX6_firstWrong cX6_firstWrong 5 (some .int)) ({ frames := 4, cells := 0, slots := 0, locals := 89 }) (oh_Pm D E G [.ref (a 0), .int x1, .int x2, .int x3] (oh_W 35 a C) sz) (va_Qi (fun r (u : Nat → va_E) => TyX a E u ∧ fr [(28, 29)] [] C u ∧ True) (oh_B D (va_A (oh_W 35 a C) sz) (fun u => oh_W 35 a u)) (va_A (oh_W 35 a C) sz)) 0 0 (va_A (oh_W 35 a C) sz) := by
  refine Met.ofW (cc := cX6_firstWrong) (maxL := 5) (ret := (some .int)) (by decide) rfl ?_
  intro p e s m args below meth c s₁ B hml hv
  obtain ⟨rfl, hsz, hP, hK, hD0, hG⟩ := hv
  have hx := B.exec
  have hb := B.bytes
  have hr := B.returns
  have hts := atoms_spec (ws := (oh_w yX6_firstWrong cX6_firstWrong 5 (some .int))) B.pre
  have htg : ∀ w ∈ oh_t, w.before _ s = true := fun w h => hts w (List.mem_cons_of_mem _ h)
  have hown : s.vm.findClass RX6 = some m.cls := findClass_of_methodNamed B.named
  have hlocks := B.notSynchronized
  have hT0 := hT
  subst hsz
  have hD := hD0.self (sz := s.heap.size)
  generalize hAe : va_A (oh_W 35 a C) s.heap.size = A at hD hG ⊢
  have hA : ∀ q : Nat, s.heap.size ≤ q → A q := fun q h => by rw [← hAe]; exact Or.inr h
  have hS : va_S A s.heap s.heap [] := va_S.rf
  have hF : fr [(28, 29)] [] C C := fr_rf
  have hl := lv_entry ([.ref (a 0), .int x1, .int x2, .int x3]) (n := 5) (Nat.le_of_ble_eq_true rfl)
  rw [lg_entry_eq]
  generalize (lg_sl ([.ref (a 0), .int x1, .int x2, .int x3]) ++ List.replicate (5 - (lg_sl ([.ref (a 0), .int x1, .int x2, .int x3])).length) Slot.unset).toArray = ls at hl ⊢
  have hl : lv_has ls 5 [(0, .ref (a 0)), (1, .int x1), (2, .int x2), (3, .int x3)] := hl
  refine oh_genQ (fun Q hQ => ?_)
  refine lv_aload_n hx hb dX6_firstWrong_0 rfl (lv_at hl 0 rfl) ?_
  refine va_get (D := D) (ci := 6) (v := .ref (a 3)) (C := RX6) (T := TX6) (N := 9) hx hb htg ig_6 hown hK hP 0 (oh_wg (by decide) (sX_0 hT)) rfl 3 (by decide) (htg _ q_261) (fun _ h9 => h9) rfl dX6_firstWrong_1 ?_
  refine lv_iload_n hx hb dX6_firstWrong_4 rfl (lv_at hl 1 rfl) ?_
  refine tm_Vv (As := [.int x1]) (rest := []) ⟨hx, hb, hml, hown, htg⟩ (c_X5_setOut l D E G _ a C hT x1 (rg_w hx1 (by decide))) (cwV 1 htg (oh_gV q_838 q_839 q_840 q_68 q_841) rfl rfl rfl pdVX5_setOut ⟨Nat.le_of_ble_eq_true rfl, Nat.le_of_ble_eq_true rfl⟩) hK hP hD hG hS hA (va_recv hK hP (ci := 5) (q0 := 3) rfl (oh_wg (by decide) (sX_3 hT))) rfl hl.1 rfl (Nat.le_of_ble_eq_true rfl) dX6_firstWrong_5 ⟨Nat.le_of_ble_eq_true rfl, Nat.le_of_ble_eq_true rfl⟩ (fun C_2 H locs hq_3 hP hD hS => ?_)
  obtain ⟨hT, f_4, hq_3⟩ := hq_3
  have hF := fr_tr hF f_4 (by decide) (by decide)
  refine W.widen (k := 0) (n := 0) (Nat.le_refl _) (Nat.le_refl _) ?_
  have t_5 := hT
  refine lv_iconst (v := 0) hx hb dX6_firstWrong_8 (by decide) ?_
  refine lv_istore (lv' := [(4, .int 0), (0, .ref (a 0)), (1, .int x1), (2, .int x2), (3, .int x3)]) hx hb dX6_firstWrong_9 hl (by decide) rfl (fun ls hl => ?_)
  have L_11 : ∀ (d : Nat) (K11 : Nat → va_E) (z11_4 : Int32) (H : Heap) (locs : List Loc) (ls : Array Slot), (20 - z11_4.toInt).toNat = d → rg z11_4 0 20 → TyX a E K11 → fr [(28, 29)] [] C K11 → fr [(28, 29)] [] C_2 K11 → va_P D vwCl (oh_W 35 a K11) H → va_D A (oh_W 35 a K11) → va_S A s.heap H locs → lv_has ls 5 [(4, .int z11_4), (0, .ref (a 0)), (1, .int x1), (2, .int x2), (3, .int x3)] → W p l e ({ frames := 4, cells := 0, slots := 0, locals := 89 }) s m (([.ref (a 0), .int x1, .int x2, .int x3] : List Value).toArray) below meth c H locs 0 0 Q (F0 m 11 ls []) := by
    intro d
    induction d using Nat.strongRecOn with
    | ind d ih_11 =>
    intro K11 z11_4 H locs ls hd_11 hz11_4 hT hF hLF_11 hP hD hS hl
    have t_6 := hT
    refine lv_iload hx hb dX6_firstWrong_11 (lv_at hl 0 rfl) ?_
    refine lv_iload_n hx hb dX6_firstWrong_13 rfl (lv_at hl 4 rfl) ?_
    refine lv_icmp_ge (tgt := 46) hx hb dX6_firstWrong_14 (by decide) (fun (c_7 : x3 ≤ z11_4) => ?_) (fun (c_7 : ¬ (x3 ≤ z11_4)) => ?_)
    · refine lv_iconst (v := (-1)) hx hb dX6_firstWrong_46 (by decide) ?_
      rw [hQ]
      exact W.iret (v := (-1)) hx hb hr (fun t ht hW => ⟨⟨(-1), K11, rfl, ⟨hT, hF, trivial⟩, ⟨by rw [ht]; exact hP, hD⟩⟩, hS.F ht⟩) hS.2.2 dX6_firstWrong_47
    · refine lv_aload_n hx hb dX6_firstWrong_17 rfl (lv_at hl 1 rfl) ?_
      refine va_get (D := D) (ci := 6) (v := .ref (a 3)) (C := RX6) (T := TX6) (N := 9) hx hb htg ig_6 hown hK hP 0 (oh_wg (by decide) (sX_0 hT)) rfl 3 (by decide) (htg _ q_261) (fun _ h9 => h9) rfl dX6_firstWrong_18 ?_
      refine lv_aload_n hx hb dX6_firstWrong_21 rfl (lv_at hl 1 rfl) ?_
      refine va_get (D := D) (ci := 6) (v := .ref (a 4)) (C := RX6) (T := TX6) (N := 9) hx hb htg ig_6 hown hK hP 0 (oh_wg (by decide) (sX_0 hT)) rfl 4 (by decide) (htg _ q_262) (fun _ h9 => h9) rfl dX6_firstWrong_22 ?_
      refine lv_iload_n hx hb dX6_firstWrong_25 rfl (lv_at hl 3 rfl) ?_
      refine lv_iload hx hb dX6_firstWrong_26 (lv_at hl 0 rfl) ?_
      refine tq_Vl (As := [.int x2, .int z11_4]) (rest := [.ref (a 3)]) (ws := (oh_W 35 a K11)) ⟨hx, hb, hml, hown, htg⟩ (c_X3_elementAt l D E G a K11 hT x2 z11_4 (rg_w hx2 (by decide))) (cwV 2 htg (oh_gV q_353 q_354 q_355 q_70 q_356) rfl rfl rfl pdVX3_elementAt ⟨Nat.le_of_ble_eq_true rfl, Nat.le_of_ble_eq_true rfl⟩) hK hP hG hS (va_recv hK hP (ci := 3) (q0 := 4) rfl (oh_wg (by decide) (sX_4 hT))) rfl hl.1 rfl (Nat.le_of_ble_eq_true rfl) dX6_firstWrong_28 ⟨Nat.le_of_ble_eq_true rfl, Nat.le_of_ble_eq_true rfl⟩ (fun r_8 hq_9 => ?_)
      refine tm_V (As := [.long r_8]) (rest := []) ⟨hx, hb, hml, hown, htg⟩ (c_X5_walk l D E G _ a K11 hT r_8) (cwV 1 htg (oh_gV q_842 q_843 q_844 q_68 q_845) rfl rfl rfl pdVX5_walk ⟨Nat.le_of_ble_eq_true rfl, Nat.le_of_ble_eq_true rfl⟩) hK hP hD hG hS hA (va_recv hK hP (ci := 5) (q0 := 3) rfl (oh_wg (by decide) (sX_3 hT))) rfl hl.1 rfl (Nat.le_of_ble_eq_true rfl) dX6_firstWrong_31 ⟨Nat.le_of_ble_eq_true rfl, Nat.le_of_ble_eq_true rfl⟩ (fun r_10 C_11 H locs hq_12 hP hD hS => ?_)
      obtain ⟨hT, f_13, hq_12⟩ := hq_12
      have hF := fr_tr hF f_13 (by decide) (by decide)
      refine W.widen (k := 0) (n := 0) (Nat.le_refl _) (Nat.le_refl _) ?_
      have t_14 := hT
      refine lv_if_ne (tgt := 40) hx hb dX6_firstWrong_34 (by decide) (fun (c_15 : ¬ (r_10 = 0)) => ?_) (fun (c_15 : r_10 = 0) => ?_)
      · refine lv_iinc (v := z11_4 + 1) (lv' := [(4, .int (z11_4 + 1)), (0, .ref (a 0)), (1, .int x1), (2, .int x2), (3, .int x3)]) hx hb dX6_firstWrong_40 hl (k := 0) rfl (by rfl) (by decide) rfl (fun ls hl => ?_)
        refine lv_goto (tgt := 11) hx hb dX6_firstWrong_43 (by decide) ?_
        exact ih_11 _ (hd_11 ▸ mu_up 20 (rn_ltu (u' := 19) (Int32.not_le.mp c_7) hz11_4 hx3 (by decide)) (by decide)) C_11 (z11_4 + 1) _ _ ls rfl (rg_w (rg_add (lo := 1) (hi := 20) (rn_ltu (u' := 19) (Int32.not_le.mp c_7) hz11_4 hx3 (by decide)) (rg_c (v := 1) (lo := 1) (hi := 1) (by decide)) (by decide)) (by decide)) hT hF (fr_tr hLF_11 f_13 (by decide) (by decide)) hP hD hS (lv_sub hl [0, 1, 2, 3, 4] rfl)
      · refine lv_iload hx hb dX6_firstWrong_37 (lv_at hl 0 rfl) ?_
        rw [hQ]
        exact W.iret (v := z11_4) hx hb hr (fun t ht hW => ⟨⟨z11_4, C_11, rfl, ⟨hT, hF, trivial⟩, ⟨by rw [ht]; exact hP, hD⟩⟩, hS.F ht⟩) hS.2.2 dX6_firstWrong_39
  exact L_11 _ C_2 0 _ _ ls rfl (rg_w (rg_c (v := 0) (lo := 0) (hi := 0) (by decide)) (by decide)) hT hF fr_rf hP hD hS (lv_sub hl [0, 1, 2, 3, 4] rfl)

set_option maxHeartbeats 4000000 in
set_option maxRecDepth 100000 in
theorem c_X6_spoken (l : Launch) (D : va_G) (E : Nat → ClassId) (G : Nat → Nat) (a : Nat → Nat) (C : Nat → va_E) (hT : TyX a E C) (x1 : Int32) (x2 : Int32) (hx1 : rg x1 0 15) : Met l yX6_spoken (oh_w yX6_spoken cX6_spoken 3 (some .int)) ({ frames := 2, cells := 0, slots := 0, locals := 51 }) (oh_Pp D E G [.ref (a 0), .int x1, .int x2] (oh_W 35 a C)) (vp_Si (fun r => True)) 0 0 (fun _ => False) := by
  refine Met.ofW (cc := cX6_spoken) (maxL := 3) (ret := (some .int)) (by decide) rfl ?_
  intro p e s m args below meth c s₁ B hml hv
  obtain ⟨rfl, hP, hK, hG⟩ := hv
  have hx := B.exec
  have hb := B.bytes
  have hr := B.returns
  have hts := atoms_spec (ws := (oh_w yX6_spoken cX6_spoken 3 (some .int))) B.pre
  have htg : ∀ w ∈ oh_t, w.before _ s = true := fun w h => hts w (List.mem_cons_of_mem _ h)
  have hown : s.vm.findClass RX6 = some m.cls := findClass_of_methodNamed B.named
  have hlocks := B.notSynchronized
  have hT0 := hT
  have hS : va_S (fun _ => False) s.heap s.heap [] := va_S.rf
  have hl := lv_entry ([.ref (a 0), .int x1, .int x2]) (n := 3) (Nat.le_of_ble_eq_true rfl)
  rw [lg_entry_eq]
  generalize (lg_sl ([.ref (a 0), .int x1, .int x2]) ++ List.replicate (3 - (lg_sl ([.ref (a 0), .int x1, .int x2])).length) Slot.unset).toArray = ls at hl ⊢
  have hl : lv_has ls 3 [(0, .ref (a 0)), (1, .int x1), (2, .int x2)] := hl
  refine oh_genQ (fun Q hQ => ?_)
  refine lv_iload_n hx hb dX6_spoken_0 rfl (lv_at hl 2 rfl) ?_
  by_cases c_1 : x2 = 0
  · refine lv_tableIn (off := 35) (tgt := 36) hx hb dX6_spoken_1 (by rw [c_1]; decide) (by rw [c_1]; decide) (by rw [c_1]; decide) (by decide) ?_
    refine lv_aload_n hx hb dX6_spoken_36 rfl (lv_at hl 0 rfl) ?_
    refine va_get (D := D) (ci := 6) (v := .ref (a 1)) (C := RX6) (T := TX6) (N := 9) hx hb htg ig_6 hown hK hP 0 (oh_wg (by decide) (sX_0 hT)) rfl 0 (by decide) (htg _ q_258) (fun _ h9 => h9) rfl dX6_spoken_37 ?_
    refine lv_iload_n hx hb dX6_spoken_40 rfl (lv_at hl 1 rfl) ?_
    refine lv_iconst (v := 0) hx hb dX6_spoken_41 (by decide) ?_
    refine tq_V (As := [.int x1, .int 0]) (rest := []) (ws := (oh_W 35 a C)) ⟨hx, hb, hml, hown, htg⟩ (c_X0_ofBridge l D E G a C hT x1 (0 : Int32) (rg_w hx1 (by decide)) (rg_w (rg_c (v := 0) (lo := 0) (hi := 0) (by decide)) (by decide))) (cwV 2 htg (oh_gV q_392 q_385 q_386 q_67 q_387) rfl rfl rfl pdVX0_ofBridge ⟨Nat.le_of_ble_eq_true rfl, Nat.le_of_ble_eq_true rfl⟩) hK hP hG hS (va_recv hK hP (ci := 0) (q0 := 1) rfl (oh_wg (by decide) (sX_1 hT))) rfl hl.1 rfl (Nat.le_of_ble_eq_true rfl) dX6_spoken_42 ⟨Nat.le_of_ble_eq_true rfl, Nat.le_of_ble_eq_true rfl⟩ (fun r_2 hq_3 => ?_)
    subst hq_3
    rw [hQ]
    exact W.iret (v := ga (C 12) ((x1 * 10) + 0).toNatClampNeg) hx hb hr (fun t ht hW => ⟨ga (C 12) ((x1 * 10) + 0).toNatClampNeg, rfl, trivial, ht⟩) (fun q h => by cases h) dX6_spoken_45
  · by_cases c_4 : x2 = 1
    · refine lv_tableIn (off := 45) (tgt := 46) hx hb dX6_spoken_1 (by rw [c_4]; decide) (by rw [c_4]; decide) (by rw [c_4]; decide) (by decide) ?_
      refine lv_aload_n hx hb dX6_spoken_46 rfl (lv_at hl 0 rfl) ?_
      refine va_get (D := D) (ci := 6) (v := .ref (a 1)) (C := RX6) (T := TX6) (N := 9) hx hb htg ig_6 hown hK hP 0 (oh_wg (by decide) (sX_0 hT)) rfl 0 (by decide) (htg _ q_258) (fun _ h9 => h9) rfl dX6_spoken_47 ?_
      refine lv_iload_n hx hb dX6_spoken_50 rfl (lv_at hl 1 rfl) ?_
      refine tq_V (As := [.int x1]) (rest := []) (ws := (oh_W 35 a C)) ⟨hx, hb, hml, hown, htg⟩ (c_X0_bearsAxle l D E G a C hT x1 (rg_w hx1 (by decide))) (cwV 1 htg (oh_gV q_393 q_394 q_395 q_67 q_396) rfl rfl rfl pdVX0_bearsAxle ⟨Nat.le_of_ble_eq_true rfl, Nat.le_of_ble_eq_true rfl⟩) hK hP hG hS (va_recv hK hP (ci := 0) (q0 := 1) rfl (oh_wg (by decide) (sX_1 hT))) rfl hl.1 rfl (Nat.le_of_ble_eq_true rfl) dX6_spoken_51 ⟨Nat.le_of_ble_eq_true rfl, Nat.le_of_ble_eq_true rfl⟩ (fun r_5 hq_6 => ?_)
      rw [hQ]
      exact W.iret (v := r_5) hx hb hr (fun t ht hW => ⟨r_5, rfl, trivial, ht⟩) (fun q h => by cases h) dX6_spoken_54
    · by_cases c_7 : x2 = 2
      · refine lv_tableIn (off := 45) (tgt := 46) hx hb dX6_spoken_1 (by rw [c_7]; decide) (by rw [c_7]; decide) (by rw [c_7]; decide) (by decide) ?_
        refine lv_aload_n hx hb dX6_spoken_46 rfl (lv_at hl 0 rfl) ?_
        refine va_get (D := D) (ci := 6) (v := .ref (a 1)) (C := RX6) (T := TX6) (N := 9) hx hb htg ig_6 hown hK hP 0 (oh_wg (by decide) (sX_0 hT)) rfl 0 (by decide) (htg _ q_258) (fun _ h9 => h9) rfl dX6_spoken_47 ?_
        refine lv_iload_n hx hb dX6_spoken_50 rfl (lv_at hl 1 rfl) ?_
        refine tq_V (As := [.int x1]) (rest := []) (ws := (oh_W 35 a C)) ⟨hx, hb, hml, hown, htg⟩ (c_X0_bearsAxle l D E G a C hT x1 (rg_w hx1 (by decide))) (cwV 1 htg (oh_gV q_393 q_394 q_395 q_67 q_396) rfl rfl rfl pdVX0_bearsAxle ⟨Nat.le_of_ble_eq_true rfl, Nat.le_of_ble_eq_true rfl⟩) hK hP hG hS (va_recv hK hP (ci := 0) (q0 := 1) rfl (oh_wg (by decide) (sX_1 hT))) rfl hl.1 rfl (Nat.le_of_ble_eq_true rfl) dX6_spoken_51 ⟨Nat.le_of_ble_eq_true rfl, Nat.le_of_ble_eq_true rfl⟩ (fun r_8 hq_9 => ?_)
        rw [hQ]
        exact W.iret (v := r_8) hx hb hr (fun t ht hW => ⟨r_8, rfl, trivial, ht⟩) (fun q h => by cases h) dX6_spoken_54
      · by_cases c_10 : x2 = 3
        · refine lv_tableIn (off := 54) (tgt := 55) hx hb dX6_spoken_1 (by rw [c_10]; decide) (by rw [c_10]; decide) (by rw [c_10]; decide) (by decide) ?_
          refine lv_aload_n hx hb dX6_spoken_55 rfl (lv_at hl 0 rfl) ?_
          refine va_get (D := D) (ci := 6) (v := .ref (a 1)) (C := RX6) (T := TX6) (N := 9) hx hb htg ig_6 hown hK hP 0 (oh_wg (by decide) (sX_0 hT)) rfl 0 (by decide) (htg _ q_258) (fun _ h9 => h9) rfl dX6_spoken_56 ?_
          refine lv_iload_n hx hb dX6_spoken_59 rfl (lv_at hl 1 rfl) ?_
          refine lv_iconst (v := 2) hx hb dX6_spoken_60 (by decide) ?_
          refine tq_V (As := [.int x1, .int 2]) (rest := []) (ws := (oh_W 35 a C)) ⟨hx, hb, hml, hown, htg⟩ (c_X0_ofBridge l D E G a C hT x1 (2 : Int32) (rg_w hx1 (by decide)) (rg_w (rg_c (v := 2) (lo := 2) (hi := 2) (by decide)) (by decide))) (cwV 2 htg (oh_gV q_392 q_385 q_386 q_67 q_387) rfl rfl rfl pdVX0_ofBridge ⟨Nat.le_of_ble_eq_true rfl, Nat.le_of_ble_eq_true rfl⟩) hK hP hG hS (va_recv hK hP (ci := 0) (q0 := 1) rfl (oh_wg (by decide) (sX_1 hT))) rfl hl.1 rfl (Nat.le_of_ble_eq_true rfl) dX6_spoken_61 ⟨Nat.le_of_ble_eq_true rfl, Nat.le_of_ble_eq_true rfl⟩ (fun r_11 hq_12 => ?_)
          subst hq_12
          rw [hQ]
          exact W.iret (v := ga (C 12) ((x1 * 10) + 2).toNatClampNeg) hx hb hr (fun t ht hW => ⟨ga (C 12) ((x1 * 10) + 2).toNatClampNeg, rfl, trivial, ht⟩) (fun q h => by cases h) dX6_spoken_64
        · by_cases c_13 : x2 = 4
          · refine lv_tableIn (off := 64) (tgt := 65) hx hb dX6_spoken_1 (by rw [c_13]; decide) (by rw [c_13]; decide) (by rw [c_13]; decide) (by decide) ?_
            refine lv_aload_n hx hb dX6_spoken_65 rfl (lv_at hl 0 rfl) ?_
            refine va_get (D := D) (ci := 6) (v := .ref (a 1)) (C := RX6) (T := TX6) (N := 9) hx hb htg ig_6 hown hK hP 0 (oh_wg (by decide) (sX_0 hT)) rfl 0 (by decide) (htg _ q_258) (fun _ h9 => h9) rfl dX6_spoken_66 ?_
            refine lv_iload_n hx hb dX6_spoken_69 rfl (lv_at hl 1 rfl) ?_
            refine lv_bipush (v := 9) hx hb dX6_spoken_70 (by decide) ?_
            refine tq_V (As := [.int x1, .int 9]) (rest := []) (ws := (oh_W 35 a C)) ⟨hx, hb, hml, hown, htg⟩ (c_X0_ofBridge l D E G a C hT x1 (9 : Int32) (rg_w hx1 (by decide)) (rg_w (rg_c (v := 9) (lo := 9) (hi := 9) (by decide)) (by decide))) (cwV 2 htg (oh_gV q_392 q_385 q_386 q_67 q_387) rfl rfl rfl pdVX0_ofBridge ⟨Nat.le_of_ble_eq_true rfl, Nat.le_of_ble_eq_true rfl⟩) hK hP hG hS (va_recv hK hP (ci := 0) (q0 := 1) rfl (oh_wg (by decide) (sX_1 hT))) rfl hl.1 rfl (Nat.le_of_ble_eq_true rfl) dX6_spoken_72 ⟨Nat.le_of_ble_eq_true rfl, Nat.le_of_ble_eq_true rfl⟩ (fun r_14 hq_15 => ?_)
            subst hq_15
            rw [hQ]
            exact W.iret (v := ga (C 12) ((x1 * 10) + 9).toNatClampNeg) hx hb hr (fun t ht hW => ⟨ga (C 12) ((x1 * 10) + 9).toNatClampNeg, rfl, trivial, ht⟩) (fun q h => by cases h) dX6_spoken_75
          · refine lv_tableOut (tgt := 76) hx hb dX6_spoken_1 (by have h9 := And.intro (oh_ne c_1 (k := 0) (by decide)) (And.intro (oh_ne c_4 (k := 1) (by decide)) (And.intro (oh_ne c_7 (k := 2) (by decide)) (And.intro (oh_ne c_10 (k := 3) (by decide)) (And.intro (oh_ne c_13 (k := 4) (by decide)) trivial)))); omega) (by decide) ?_
            refine lv_aload_n hx hb dX6_spoken_76 rfl (lv_at hl 0 rfl) ?_
            refine va_get (D := D) (ci := 6) (v := .ref (a 1)) (C := RX6) (T := TX6) (N := 9) hx hb htg ig_6 hown hK hP 0 (oh_wg (by decide) (sX_0 hT)) rfl 0 (by decide) (htg _ q_258) (fun _ h9 => h9) rfl dX6_spoken_77 ?_
            refine lv_iload_n hx hb dX6_spoken_80 rfl (lv_at hl 1 rfl) ?_
            refine lv_aload_n hx hb dX6_spoken_81 rfl (lv_at hl 0 rfl) ?_
            refine va_get (D := D) (ci := 6) (v := .ref (a 1)) (C := RX6) (T := TX6) (N := 9) hx hb htg ig_6 hown hK hP 0 (oh_wg (by decide) (sX_0 hT)) rfl 0 (by decide) (htg _ q_258) (fun _ h9 => h9) rfl dX6_spoken_82 ?_
            refine lv_iload_n hx hb dX6_spoken_85 rfl (lv_at hl 1 rfl) ?_
            refine tq_V (As := [.int x1]) (rest := [.int x1, .ref (a 1)]) (ws := (oh_W 35 a C)) ⟨hx, hb, hml, hown, htg⟩ (c_X0_isPropped l D E G a C hT x1 (rg_w hx1 (by decide))) (cwV 1 htg (oh_gV q_401 q_402 q_403 q_67 q_404) rfl rfl rfl pdVX0_isPropped ⟨Nat.le_of_ble_eq_true rfl, Nat.le_of_ble_eq_true rfl⟩) hK hP hG hS (va_recv hK hP (ci := 0) (q0 := 1) rfl (oh_wg (by decide) (sX_1 hT))) rfl hl.1 rfl (Nat.le_of_ble_eq_true rfl) dX6_spoken_86 ⟨Nat.le_of_ble_eq_true rfl, Nat.le_of_ble_eq_true rfl⟩ (fun r_16 hq_17 => ?_)
            refine tq_V (As := [.int x1, .int r_16]) (rest := []) (ws := (oh_W 35 a C)) ⟨hx, hb, hml, hown, htg⟩ (c_X0_bearsAll l D E G a C hT x1 r_16 (rg_w hx1 (by decide)) (rg_w (oh_rgb hq_17) (by decide))) (cwV 2 htg (oh_gV q_405 q_406 q_407 q_67 q_408) rfl rfl rfl pdVX0_bearsAll ⟨Nat.le_of_ble_eq_true rfl, Nat.le_of_ble_eq_true rfl⟩) hK hP hG hS (va_recv hK hP (ci := 0) (q0 := 1) rfl (oh_wg (by decide) (sX_1 hT))) rfl hl.1 rfl (Nat.le_of_ble_eq_true rfl) dX6_spoken_89 ⟨Nat.le_of_ble_eq_true rfl, Nat.le_of_ble_eq_true rfl⟩ (fun r_18 hq_19 => ?_)
            rw [hQ]
            exact W.iret (v := r_18) hx hb hr (fun t ht hW => ⟨r_18, rfl, trivial, ht⟩) (fun q h => by cases h) dX6_spoken_92

set_option maxHeartbeats 4000000 in
set_option maxRecDepth 100000 in
theorem c_X6_findBest (l : Launch) (D : va_G) (E : Nat → ClassId) (G : Nat → Nat) (sz : Nat) (a : Nat → Nat) (C : Nat → va_E) (hT : TyX a E C) (x1 : Int32) (x2 : Int32) (hx1 : rg x1 0 15) (hx2 : rg x2 0 15) : Met l yX6_findBest (oh_w yX6_findBest cX6_findBest 6 none) ({ frames := 5, cells := 0, slots := 0, locals := 125 }) (oh_Pm D E G [.ref (a 0), .int x1, .int x2] (oh_W 35 a C) sz) (va_Qv (fun (u : Nat → va_E) => TyX a E u ∧ fr [(8, 10), (24, 28)] [] C u ∧ True) (oh_B D (va_A (oh_W 35 a C) sz) (fun u => oh_W 35 a u)) (va_A (oh_W 35 a C) sz)) 0 0 (va_A (oh_W 35 a C) sz) := by
  refine Met.ofW (cc := cX6_findBest) (maxL := 6) (ret := none) (by decide) rfl ?_
  intro p e s m args below meth c s₁ B hml hv
  obtain ⟨rfl, hsz, hP, hK, hD0, hG⟩ := hv
  have hx := B.exec
  have hb := B.bytes
  have hr := B.returns
  have hts := atoms_spec (ws := (oh_w yX6_findBest cX6_findBest 6 none)) B.pre
  have htg : ∀ w ∈ oh_t, w.before _ s = true := fun w h => hts w (List.mem_cons_of_mem _ h)
  have hown : s.vm.findClass RX6 = some m.cls := findClass_of_methodNamed B.named
  have hlocks := B.notSynchronized
  have hT0 := hT
  subst hsz
  have hD := hD0.self (sz := s.heap.size)
  generalize hAe : va_A (oh_W 35 a C) s.heap.size = A at hD hG ⊢
  have hA : ∀ q : Nat, s.heap.size ≤ q → A q := fun q h => by rw [← hAe]; exact Or.inr h
  have hS : va_S A s.heap s.heap [] := va_S.rf
  have hF : fr [(8, 10), (24, 28)] [] C C := fr_rf
  have hl := lv_entry ([.ref (a 0), .int x1, .int x2]) (n := 6) (Nat.le_of_ble_eq_true rfl)
  rw [lg_entry_eq]
  generalize (lg_sl ([.ref (a 0), .int x1, .int x2]) ++ List.replicate (6 - (lg_sl ([.ref (a 0), .int x1, .int x2])).length) Slot.unset).toArray = ls at hl ⊢
  have hl : lv_has ls 6 [(0, .ref (a 0)), (1, .int x1), (2, .int x2)] := hl
  refine oh_genQ (fun Q hQ => ?_)
  refine lv_aload_n hx hb dX6_findBest_0 rfl (lv_at hl 0 rfl) ?_
  refine va_get (D := D) (ci := 6) (v := .ref (a 8)) (C := RX6) (T := TX6) (N := 9) hx hb htg ig_6 hown hK hP 0 (oh_wg (by decide) (sX_0 hT)) rfl 8 (by decide) (htg _ q_266) (fun _ h9 => h9) rfl dX6_findBest_1 ?_
  refine lv_iconst (v := 2) hx hb dX6_findBest_4 (by decide) ?_
  refine lv_ldc (v := 1000000000) hx hb hown (htg _ q_803) dX6_findBest_5 ?_
  refine th_iast (T := TyX a E) (Rl := fr [(8, 10), (24, 28)] [] C) hx hb hK hP hD hS 8 (by decide) (sX_8 hT) (rg_in (rg_c (v := 2) (lo := 2) (hi := 2) (by decide)) (by decide)) (hT.up 8 (tA_upd (tX_8 hT) tA_any)) (fr_st hF (by decide) (by decide)) dX6_findBest_7 (fun C_1 H locs e_2 hT hF hP hD hS => ?_)
  have t_3 := hT
  refine lv_iconst (v := 0) hx hb dX6_findBest_8 (by decide) ?_
  refine lv_istore_n (lv' := [(3, .int 0), (0, .ref (a 0)), (1, .int x1), (2, .int x2)]) hx hb dX6_findBest_9 rfl hl (by decide) rfl (fun ls hl => ?_)
  have L_10 : ∀ (d : Nat) (K10 : Nat → va_E) (z10_3 : Int32) (H : Heap) (locs : List Loc) (ls : Array Slot), (5 - z10_3.toInt).toNat = d → rg z10_3 0 5 → TyX a E K10 → fr [(8, 10), (24, 28)] [] C K10 → fr [(8, 10), (24, 28)] [] C_1 K10 → va_P D vwCl (oh_W 35 a K10) H → va_D A (oh_W 35 a K10) → va_S A s.heap H locs → lv_has ls 6 [(3, .int z10_3), (0, .ref (a 0)), (1, .int x1), (2, .int x2)] → W p l e ({ frames := 5, cells := 0, slots := 0, locals := 125 }) s m (([.ref (a 0), .int x1, .int x2] : List Value).toArray) below meth c H locs 0 0 Q (F0 m 10 ls []) := by
    intro d
    induction d using Nat.strongRecOn with
    | ind d ih_10 =>
    intro K10 z10_3 H locs ls hd_10 hz10_3 hT hF hLF_10 hP hD hS hl
    have t_4 := hT
    refine lv_iload_n hx hb dX6_findBest_10 rfl (lv_at hl 0 rfl) ?_
    refine lv_aload_n hx hb dX6_findBest_11 rfl (lv_at hl 1 rfl) ?_
    refine va_get (D := D) (ci := 6) (v := .ref (a 1)) (C := RX6) (T := TX6) (N := 9) hx hb htg ig_6 hown hK hP 0 (oh_wg (by decide) (sX_0 hT)) rfl 0 (by decide) (htg _ q_258) (fun _ h9 => h9) rfl dX6_findBest_12 ?_
    refine va_get (D := D) (ci := 0) (v := .ref (a 10)) (C := RX0) (T := TX0) (N := 8) hx hb htg ig_0 hown hK hP 1 (oh_wg (by decide) (sX_1 hT)) rfl 0 (by decide) (htg _ q_100) (fun _ h9 => h9) rfl dX6_findBest_15 ?_
    refine lv_iconst (v := 2) hx hb dX6_findBest_18 (by decide) ?_
    refine th_iald hx hb hK hP 10 (by decide) (Eq.trans (Eq.trans (hLF_10.1 10 rfl (by decide)) (th_un e_2 (by decide))) (sX_10 hT0)) (rg_in (rg_c (v := 2) (lo := 2) (hi := 2) (by decide)) (by decide)) dX6_findBest_19 ?_
    refine lv_icmp_ge (tgt := 118) hx hb dX6_findBest_20 (by decide) (fun (c_5 : (ga (C 10) ((2 : Int32)).toNatClampNeg) ≤ z10_3) => ?_) (fun (c_5 : ¬ ((ga (C 10) ((2 : Int32)).toNatClampNeg) ≤ z10_3)) => ?_)
    · rw [hQ]
      exact W.vret hx hb hr (fun t ht hW => ⟨⟨K10, rfl, ⟨hT, hF, trivial⟩, ⟨by rw [ht]; exact hP, hD⟩⟩, hS.F ht⟩) hS.2.2 dX6_findBest_118
    · refine lv_iconst (v := 0) hx hb dX6_findBest_23 (by decide) ?_
      refine lv_istore (lv' := [(4, .int 0), (3, .int z10_3), (0, .ref (a 0)), (1, .int x1), (2, .int x2)]) hx hb dX6_findBest_24 hl (by decide) rfl (fun ls hl => ?_)
      have L_26 : ∀ (d : Nat) (K26 : Nat → va_E) (z26_4 : Int32) (H : Heap) (locs : List Loc) (ls : Array Slot), (32 - z26_4.toInt).toNat = d → rg z26_4 0 32 → TyX a E K26 → fr [(8, 10), (24, 28)] [] C K26 → fr [(8, 10), (24, 28)] [] K10 K26 → va_P D vwCl (oh_W 35 a K26) H → va_D A (oh_W 35 a K26) → va_S A s.heap H locs → lv_has ls 6 [(4, .int z26_4), (3, .int z10_3), (0, .ref (a 0)), (1, .int x1), (2, .int x2)] → W p l e ({ frames := 5, cells := 0, slots := 0, locals := 125 }) s m (([.ref (a 0), .int x1, .int x2] : List Value).toArray) below meth c H locs 0 0 Q (F0 m 26 ls []) := by
        intro d
        induction d using Nat.strongRecOn with
        | ind d ih_26 =>
        intro K26 z26_4 H locs ls hd_26 hz26_4 hT hF hLF_26 hP hD hS hl
        have t_6 := hT
        refine lv_iload hx hb dX6_findBest_26 (lv_at hl 0 rfl) ?_
        refine lv_aload_n hx hb dX6_findBest_28 rfl (lv_at hl 2 rfl) ?_
        refine va_get (D := D) (ci := 6) (v := .ref (a 1)) (C := RX6) (T := TX6) (N := 9) hx hb htg ig_6 hown hK hP 0 (oh_wg (by decide) (sX_0 hT)) rfl 0 (by decide) (htg _ q_258) (fun _ h9 => h9) rfl dX6_findBest_29 ?_
        refine tq_V (As := []) (rest := [.int z26_4]) (ws := (oh_W 35 a K26)) ⟨hx, hb, hml, hown, htg⟩ (c_X0_setsOfParts l D E G a K26 hT) (cwV 0 htg (oh_gV q_699 q_700 q_701 q_67 q_702) rfl rfl rfl pdVX0_setsOfParts ⟨Nat.le_of_ble_eq_true rfl, Nat.le_of_ble_eq_true rfl⟩) hK hP hG hS (va_recv hK hP (ci := 0) (q0 := 1) rfl (oh_wg (by decide) (sX_1 hT))) rfl hl.1 rfl (Nat.le_of_ble_eq_true rfl) dX6_findBest_32 ⟨Nat.le_of_ble_eq_true rfl, Nat.le_of_ble_eq_true rfl⟩ (fun r_7 hq_8 => ?_)
        refine lv_icmp_ge (tgt := 112) hx hb dX6_findBest_35 (by decide) (fun (c_9 : r_7 ≤ z26_4) => ?_) (fun (c_9 : ¬ (r_7 ≤ z26_4)) => ?_)
        · refine lv_iinc (v := z10_3 + 1) (lv' := [(3, .int (z10_3 + 1)), (4, .int z26_4), (0, .ref (a 0)), (1, .int x1), (2, .int x2)]) hx hb dX6_findBest_112 hl (k := 1) rfl (by rfl) (by decide) rfl (fun ls hl => ?_)
          refine lv_goto (tgt := 10) hx hb dX6_findBest_115 (by decide) ?_
          exact ih_10 _ (hd_10 ▸ mu_up 5 (rn_ltu (u' := 4) (Int32.not_le.mp c_5) hz10_3 (tA_rdc (lo := 0) (hi := 5) (tX_10 hT0) (rg_in (rg_c (v := 2) (lo := 2) (hi := 2) (by decide)) (by decide)) (show _ = 2 by decide) (by decide)) (by decide)) (by decide)) K26 (z10_3 + 1) _ _ ls rfl (rg_w (rg_add (lo := 1) (hi := 5) (rn_ltu (u' := 4) (Int32.not_le.mp c_5) hz10_3 (tA_rdc (lo := 0) (hi := 5) (tX_10 hT0) (rg_in (rg_c (v := 2) (lo := 2) (hi := 2) (by decide)) (by decide)) (show _ = 2 by decide) (by decide)) (by decide)) (rg_c (v := 1) (lo := 1) (hi := 1) (by decide)) (by decide)) (by decide)) hT hF (fr_tr hLF_10 hLF_26 (by decide) (by decide)) hP hD hS (lv_sub hl [0, 2, 3, 4] rfl)
        · refine lv_aload_n hx hb dX6_findBest_38 rfl (lv_at hl 2 rfl) ?_
          refine va_get (D := D) (ci := 6) (v := .ref (a 1)) (C := RX6) (T := TX6) (N := 9) hx hb htg ig_6 hown hK hP 0 (oh_wg (by decide) (sX_0 hT)) rfl 0 (by decide) (htg _ q_258) (fun _ h9 => h9) rfl dX6_findBest_39 ?_
          refine lv_iload hx hb dX6_findBest_42 (lv_at hl 0 rfl) ?_
          refine lv_iconst (v := 1) hx hb dX6_findBest_44 (by decide) ?_
          refine tq_V (As := [.int z26_4, .int 1]) (rest := []) (ws := (oh_W 35 a K26)) ⟨hx, hb, hml, hown, htg⟩ (c_X0_sumOfParts l D E G a K26 hT z26_4 (1 : Int32) (rg_w (rg_c (v := 1) (lo := 1) (hi := 1) (by decide)) (by decide))) (cwV 2 htg (oh_gV q_825 q_710 q_711 q_67 q_712) rfl rfl rfl pdVX0_sumOfParts ⟨Nat.le_of_ble_eq_true rfl, Nat.le_of_ble_eq_true rfl⟩) hK hP hG hS (va_recv hK hP (ci := 0) (q0 := 1) rfl (oh_wg (by decide) (sX_1 hT))) rfl hl.1 rfl (Nat.le_of_ble_eq_true rfl) dX6_findBest_45 ⟨Nat.le_of_ble_eq_true rfl, Nat.le_of_ble_eq_true rfl⟩ (fun r_10 hq_11 => ?_)
          refine lv_aload_n hx hb dX6_findBest_48 rfl (lv_at hl 2 rfl) ?_
          refine va_get (D := D) (ci := 6) (v := .ref (a 8)) (C := RX6) (T := TX6) (N := 9) hx hb htg ig_6 hown hK hP 0 (oh_wg (by decide) (sX_0 hT)) rfl 8 (by decide) (htg _ q_266) (fun _ h9 => h9) rfl dX6_findBest_49 ?_
          refine lv_iconst (v := 2) hx hb dX6_findBest_52 (by decide) ?_
          refine th_iald hx hb hK hP 8 (by decide) (sX_8 hT) (rg_in (rg_c (v := 2) (lo := 2) (hi := 2) (by decide)) (by decide)) dX6_findBest_53 ?_
          refine lv_icmp_ge (tgt := 106) hx hb dX6_findBest_54 (by decide) (fun (c_12 : (ga (K26 8) ((2 : Int32)).toNatClampNeg) ≤ r_10) => ?_) (fun (c_12 : ¬ ((ga (K26 8) ((2 : Int32)).toNatClampNeg) ≤ r_10)) => ?_)
          · refine lv_iinc (v := z26_4 + 1) (lv' := [(4, .int (z26_4 + 1)), (3, .int z10_3), (0, .ref (a 0)), (1, .int x1), (2, .int x2)]) hx hb dX6_findBest_106 hl (k := 0) rfl (by rfl) (by decide) rfl (fun ls hl => ?_)
            refine lv_goto (tgt := 26) hx hb dX6_findBest_109 (by decide) ?_
            exact ih_26 _ (hd_26 ▸ mu_up 32 (rn_ltu (u' := 31) (Int32.not_le.mp c_9) hz26_4 hq_8 (by decide)) (by decide)) K26 (z26_4 + 1) _ _ ls rfl (rg_w (rg_add (lo := 1) (hi := 32) (rn_ltu (u' := 31) (Int32.not_le.mp c_9) hz26_4 hq_8 (by decide)) (rg_c (v := 1) (lo := 1) (hi := 1) (by decide)) (by decide)) (by decide)) hT hF hLF_26 hP hD hS (lv_sub hl [0, 1, 2, 3, 4] rfl)
          · refine lv_aload_n hx hb dX6_findBest_57 rfl (lv_at hl 2 rfl) ?_
            refine va_get (D := D) (ci := 6) (v := .ref (a 3)) (C := RX6) (T := TX6) (N := 9) hx hb htg ig_6 hown hK hP 0 (oh_wg (by decide) (sX_0 hT)) rfl 3 (by decide) (htg _ q_261) (fun _ h9 => h9) rfl dX6_findBest_58 ?_
            refine lv_iload_n hx hb dX6_findBest_61 rfl (lv_at hl 1 rfl) ?_
            refine lv_iload hx hb dX6_findBest_62 (lv_at hl 0 rfl) ?_
            refine lv_iload_n hx hb dX6_findBest_64 rfl (lv_at hl 3 rfl) ?_
            refine lv_iload_n hx hb dX6_findBest_65 rfl (lv_at hl 4 rfl) ?_
            refine lv_iconst (v := 1) hx hb dX6_findBest_66 (by decide) ?_
            refine tm_V (As := [.int z10_3, .int z26_4, .int x1, .int x2, .int 1]) (rest := []) ⟨hx, hb, hml, hown, htg⟩ (c_X5_leastCoin l D E G _ a K26 hT z10_3 z26_4 x1 x2 (1 : Int32) (rg_w (rn_ltu (u' := 4) (Int32.not_le.mp c_5) hz10_3 (tA_rdc (lo := 0) (hi := 5) (tX_10 hT0) (rg_in (rg_c (v := 2) (lo := 2) (hi := 2) (by decide)) (by decide)) (show _ = 2 by decide) (by decide)) (by decide)) (by decide)) (rg_w hx1 (by decide)) (rg_w hx2 (by decide))) (cwV 5 htg (oh_gV q_780 q_781 q_782 q_68 q_783) rfl rfl rfl pdVX5_leastCoin ⟨Nat.le_of_ble_eq_true rfl, Nat.le_of_ble_eq_true rfl⟩) hK hP hD hG hS hA (va_recv hK hP (ci := 5) (q0 := 3) rfl (oh_wg (by decide) (sX_3 hT))) rfl hl.1 rfl (Nat.le_of_ble_eq_true rfl) dX6_findBest_67 ⟨Nat.le_of_ble_eq_true rfl, Nat.le_of_ble_eq_true rfl⟩ (fun r_13 C_14 H locs hq_15 hP hD hS => ?_)
            obtain ⟨hT, f_16, hq_15⟩ := hq_15
            have hF := fr_tr hF f_16 (by decide) (by decide)
            refine W.widen (k := 0) (n := 0) (Nat.le_refl _) (Nat.le_refl _) ?_
            have t_17 := hT
            refine lv_istore (lv' := [(5, .int r_13), (4, .int z26_4), (3, .int z10_3), (0, .ref (a 0)), (1, .int x1), (2, .int x2)]) hx hb dX6_findBest_70 hl (by decide) rfl (fun ls hl => ?_)
            refine lv_iload hx hb dX6_findBest_72 (lv_at hl 0 rfl) ?_
            refine lv_aload_n hx hb dX6_findBest_74 rfl (lv_at hl 3 rfl) ?_
            refine va_get (D := D) (ci := 6) (v := .ref (a 8)) (C := RX6) (T := TX6) (N := 9) hx hb htg ig_6 hown hK hP 0 (oh_wg (by decide) (sX_0 hT)) rfl 8 (by decide) (htg _ q_266) (fun _ h9 => h9) rfl dX6_findBest_75 ?_
            refine lv_iconst (v := 2) hx hb dX6_findBest_78 (by decide) ?_
            refine th_iald hx hb hK hP 8 (by decide) (Eq.trans (f_16.1 8 rfl (by decide)) (sX_8 t_6)) (rg_in (rg_c (v := 2) (lo := 2) (hi := 2) (by decide)) (by decide)) dX6_findBest_79 ?_
            refine lv_icmp_ge (tgt := 106) hx hb dX6_findBest_80 (by decide) (fun (c_18 : (ga (K26 8) ((2 : Int32)).toNatClampNeg) ≤ r_13) => ?_) (fun (c_18 : ¬ ((ga (K26 8) ((2 : Int32)).toNatClampNeg) ≤ r_13)) => ?_)
            · refine lv_iinc (v := z26_4 + 1) (lv' := [(4, .int (z26_4 + 1)), (5, .int r_13), (3, .int z10_3), (0, .ref (a 0)), (1, .int x1), (2, .int x2)]) hx hb dX6_findBest_106 hl (k := 1) rfl (by rfl) (by decide) rfl (fun ls hl => ?_)
              refine lv_goto (tgt := 26) hx hb dX6_findBest_109 (by decide) ?_
              exact ih_26 _ (hd_26 ▸ mu_up 32 (rn_ltu (u' := 31) (Int32.not_le.mp c_9) hz26_4 hq_8 (by decide)) (by decide)) C_14 (z26_4 + 1) _ _ ls rfl (rg_w (rg_add (lo := 1) (hi := 32) (rn_ltu (u' := 31) (Int32.not_le.mp c_9) hz26_4 hq_8 (by decide)) (rg_c (v := 1) (lo := 1) (hi := 1) (by decide)) (by decide)) (by decide)) hT hF (fr_tr hLF_26 f_16 (by decide) (by decide)) hP hD hS (lv_sub hl [0, 2, 3, 4, 5] rfl)
            · refine lv_aload_n hx hb dX6_findBest_83 rfl (lv_at hl 3 rfl) ?_
              refine va_get (D := D) (ci := 6) (v := .ref (a 8)) (C := RX6) (T := TX6) (N := 9) hx hb htg ig_6 hown hK hP 0 (oh_wg (by decide) (sX_0 hT)) rfl 8 (by decide) (htg _ q_266) (fun _ h9 => h9) rfl dX6_findBest_84 ?_
              refine lv_iconst (v := 0) hx hb dX6_findBest_87 (by decide) ?_
              refine lv_iload_n hx hb dX6_findBest_88 rfl (lv_at hl 2 rfl) ?_
              refine th_iast (T := TyX a E) (Rl := fr [(8, 10), (24, 28)] [] C) hx hb hK hP hD hS 8 (by decide) (sX_8 hT) (rg_in (rg_c (v := 0) (lo := 0) (hi := 0) (by decide)) (by decide)) (hT.up 8 (tA_upd (tX_8 hT) tA_any)) (fr_st hF (by decide) (by decide)) dX6_findBest_89 (fun C_19 H locs e_20 hT hF hP hD hS => ?_)
              have t_21 := hT
              refine lv_aload_n hx hb dX6_findBest_90 rfl (lv_at hl 3 rfl) ?_
              refine va_get (D := D) (ci := 6) (v := .ref (a 8)) (C := RX6) (T := TX6) (N := 9) hx hb htg ig_6 hown hK hP 0 (oh_wg (by decide) (sX_0 hT)) rfl 8 (by decide) (htg _ q_266) (fun _ h9 => h9) rfl dX6_findBest_91 ?_
              refine lv_iconst (v := 1) hx hb dX6_findBest_94 (by decide) ?_
              refine lv_iload hx hb dX6_findBest_95 (lv_at hl 1 rfl) ?_
              refine th_iast (T := TyX a E) (Rl := fr [(8, 10), (24, 28)] [] C) hx hb hK hP hD hS 8 (by decide) (sX_8 hT) (rg_in (rg_c (v := 1) (lo := 1) (hi := 1) (by decide)) (by decide)) (hT.up 8 (tA_upd (tX_8 hT) tA_any)) (fr_st hF (by decide) (by decide)) dX6_findBest_97 (fun C_22 H locs e_23 hT hF hP hD hS => ?_)
              have t_24 := hT
              refine lv_aload_n hx hb dX6_findBest_98 rfl (lv_at hl 3 rfl) ?_
              refine va_get (D := D) (ci := 6) (v := .ref (a 8)) (C := RX6) (T := TX6) (N := 9) hx hb htg ig_6 hown hK hP 0 (oh_wg (by decide) (sX_0 hT)) rfl 8 (by decide) (htg _ q_266) (fun _ h9 => h9) rfl dX6_findBest_99 ?_
              refine lv_iconst (v := 2) hx hb dX6_findBest_102 (by decide) ?_
              refine lv_iload hx hb dX6_findBest_103 (lv_at hl 0 rfl) ?_
              refine th_iast (T := TyX a E) (Rl := fr [(8, 10), (24, 28)] [] C) hx hb hK hP hD hS 8 (by decide) (sX_8 hT) (rg_in (rg_c (v := 2) (lo := 2) (hi := 2) (by decide)) (by decide)) (hT.up 8 (tA_upd (tX_8 hT) tA_any)) (fr_st hF (by decide) (by decide)) dX6_findBest_105 (fun C_25 H locs e_26 hT hF hP hD hS => ?_)
              have t_27 := hT
              refine lv_iinc (v := z26_4 + 1) (lv' := [(4, .int (z26_4 + 1)), (5, .int r_13), (3, .int z10_3), (0, .ref (a 0)), (1, .int x1), (2, .int x2)]) hx hb dX6_findBest_106 hl (k := 1) rfl (by rfl) (by decide) rfl (fun ls hl => ?_)
              refine lv_goto (tgt := 26) hx hb dX6_findBest_109 (by decide) ?_
              exact ih_26 _ (hd_26 ▸ mu_up 32 (rn_ltu (u' := 31) (Int32.not_le.mp c_9) hz26_4 hq_8 (by decide)) (by decide)) C_25 (z26_4 + 1) _ _ ls rfl (rg_w (rg_add (lo := 1) (hi := 32) (rn_ltu (u' := 31) (Int32.not_le.mp c_9) hz26_4 hq_8 (by decide)) (rg_c (v := 1) (lo := 1) (hi := 1) (by decide)) (by decide)) (by decide)) hT hF (fr_ste (fr_ste (fr_ste (fr_tr hLF_26 f_16 (by decide) (by decide)) e_20 (by decide) (by decide)) e_23 (by decide) (by decide)) e_26 (by decide) (by decide)) hP hD hS (lv_sub hl [0, 2, 3, 4, 5] rfl)
      exact L_26 _ K10 0 _ _ ls rfl (rg_w (rg_c (v := 0) (lo := 0) (hi := 0) (by decide)) (by decide)) hT hF fr_rf hP hD hS (lv_sub hl [0, 1, 2, 3, 4] rfl)
  exact L_10 _ C_1 0 _ _ ls rfl (rg_w (rg_c (v := 0) (lo := 0) (hi := 0) (by decide)) (by decide)) hT hF fr_rf hP hD hS (lv_sub hl [0, 1, 2, 3] rfl)

set_option maxHeartbeats 4000000 in
set_option maxRecDepth 100000 in
theorem c_X6_coinIfFallen (l : Launch) (D : va_G) (E : Nat → ClassId) (G : Nat → Nat) (sz : Nat) (a : Nat → Nat) (C : Nat → va_E) (hT : TyX a E C) (x1 : Int32) (x2 : Int32) (x3 : Int32) (x4 : Int32) (x5 : Int32) (hx1 : rg x1 0 15) (hx2 : rg x2 0 4) (hx4 : rg x4 0 15) (hx5 : rg x5 0 15) : Met l yX6_coinIfFallen (oh_w yX6_coinIfFallen cX6_coinIfFallen 8 (some .int)) ({ frames := 5, cells := 0, slots := 0, locals := 125 }) (oh_Pm D E G [.ref (a 0), .int x1, .int x2, .int x3, .int x4, .int x5] (oh_W 35 a C) sz) (va_Qi (fun r (u : Nat → va_E) => TyX a E u ∧ fr [(9, 10), (12, 13), (24, 28)] [] C u ∧ True) (oh_B D (va_A (oh_W 35 a C) sz) (fun u => oh_W 35 a u)) (va_A (oh_W 35 a C) sz)) 0 0 (va_A (oh_W 35 a C) sz) := by
  refine Met.ofW (cc := cX6_coinIfFallen) (maxL := 8) (ret := (some .int)) (by decide) rfl ?_
  intro p e s m args below meth c s₁ B hml hv
  obtain ⟨rfl, hsz, hP, hK, hD0, hG⟩ := hv
  have hx := B.exec
  have hb := B.bytes
  have hr := B.returns
  have hts := atoms_spec (ws := (oh_w yX6_coinIfFallen cX6_coinIfFallen 8 (some .int))) B.pre
  have htg : ∀ w ∈ oh_t, w.before _ s = true := fun w h => hts w (List.mem_cons_of_mem _ h)
  have hown : s.vm.findClass RX6 = some m.cls := findClass_of_methodNamed B.named
  have hlocks := B.notSynchronized
  have hT0 := hT
  subst hsz
  have hD := hD0.self (sz := s.heap.size)
  generalize hAe : va_A (oh_W 35 a C) s.heap.size = A at hD hG ⊢
  have hA : ∀ q : Nat, s.heap.size ≤ q → A q := fun q h => by rw [← hAe]; exact Or.inr h
  have hS : va_S A s.heap s.heap [] := va_S.rf
  have hF : fr [(9, 10), (12, 13), (24, 28)] [] C C := fr_rf
  have hl := lv_entry ([.ref (a 0), .int x1, .int x2, .int x3, .int x4, .int x5]) (n := 8) (Nat.le_of_ble_eq_true rfl)
  rw [lg_entry_eq]
  generalize (lg_sl ([.ref (a 0), .int x1, .int x2, .int x3, .int x4, .int x5]) ++ List.replicate (8 - (lg_sl ([.ref (a 0), .int x1, .int x2, .int x3, .int x4, .int x5])).length) Slot.unset).toArray = ls at hl ⊢
  have hl : lv_has ls 8 [(0, .ref (a 0)), (1, .int x1), (2, .int x2), (3, .int x3), (4, .int x4), (5, .int x5)] := hl
  refine oh_genQ (fun Q hQ => ?_)
  refine lv_aload_n hx hb dX6_coinIfFallen_0 rfl (lv_at hl 0 rfl) ?_
  refine va_get (D := D) (ci := 6) (v := .ref (a 1)) (C := RX6) (T := TX6) (N := 9) hx hb htg ig_6 hown hK hP 0 (oh_wg (by decide) (sX_0 hT)) rfl 0 (by decide) (htg _ q_258) (fun _ h9 => h9) rfl dX6_coinIfFallen_1 ?_
  refine lv_iload_n hx hb dX6_coinIfFallen_4 rfl (lv_at hl 1 rfl) ?_
  refine lv_bipush (v := 8) hx hb dX6_coinIfFallen_5 (by decide) ?_
  refine tq_V (As := [.int x1, .int 8]) (rest := []) (ws := (oh_W 35 a C)) ⟨hx, hb, hml, hown, htg⟩ (c_X0_ofBridge l D E G a C hT x1 (8 : Int32) (rg_w hx1 (by decide)) (rg_w (rg_c (v := 8) (lo := 8) (hi := 8) (by decide)) (by decide))) (cwV 2 htg (oh_gV q_392 q_385 q_386 q_67 q_387) rfl rfl rfl pdVX0_ofBridge ⟨Nat.le_of_ble_eq_true rfl, Nat.le_of_ble_eq_true rfl⟩) hK hP hG hS (va_recv hK hP (ci := 0) (q0 := 1) rfl (oh_wg (by decide) (sX_1 hT))) rfl hl.1 rfl (Nat.le_of_ble_eq_true rfl) dX6_coinIfFallen_7 ⟨Nat.le_of_ble_eq_true rfl, Nat.le_of_ble_eq_true rfl⟩ (fun r_1 hq_2 => ?_)
  subst hq_2
  refine lv_istore (lv' := [(6, .int (ga (C 12) ((x1 * 10) + 8).toNatClampNeg)), (0, .ref (a 0)), (1, .int x1), (2, .int x2), (3, .int x3), (4, .int x4), (5, .int x5)]) hx hb dX6_coinIfFallen_10 hl (by decide) rfl (fun ls hl => ?_)
  refine lv_aload_n hx hb dX6_coinIfFallen_12 rfl (lv_at hl 1 rfl) ?_
  refine va_get (D := D) (ci := 6) (v := .ref (a 1)) (C := RX6) (T := TX6) (N := 9) hx hb htg ig_6 hown hK hP 0 (oh_wg (by decide) (sX_0 hT)) rfl 0 (by decide) (htg _ q_258) (fun _ h9 => h9) rfl dX6_coinIfFallen_13 ?_
  refine lv_iload_n hx hb dX6_coinIfFallen_16 rfl (lv_at hl 2 rfl) ?_
  refine lv_bipush (v := 8) hx hb dX6_coinIfFallen_17 (by decide) ?_
  refine lv_iconst (v := 1) hx hb dX6_coinIfFallen_19 (by decide) ?_
  refine tm_Vv (As := [.int x1, .int 8, .int 1]) (rest := []) ⟨hx, hb, hml, hown, htg⟩ (c_X0_putBridgeColumn l D E G _ a C hT x1 (8 : Int32) (1 : Int32) (rg_w hx1 (by decide)) (rg_w (rg_c (v := 8) (lo := 8) (hi := 8) (by decide)) (by decide))) (cwV 3 htg (oh_gV q_474 q_445 q_446 q_67 q_447) rfl rfl rfl pdVX0_putBridgeColumn ⟨Nat.le_of_ble_eq_true rfl, Nat.le_of_ble_eq_true rfl⟩) hK hP hD hG hS hA (va_recv hK hP (ci := 0) (q0 := 1) rfl (oh_wg (by decide) (sX_1 hT))) rfl hl.1 rfl (Nat.le_of_ble_eq_true rfl) dX6_coinIfFallen_20 ⟨Nat.le_of_ble_eq_true rfl, Nat.le_of_ble_eq_true rfl⟩ (fun C_4 H locs hq_5 hP hD hS => ?_)
  obtain ⟨hT, f_6, hq_5⟩ := hq_5
  have hF := fr_tr hF f_6 (by decide) (by decide)
  refine W.widen (k := 0) (n := 0) (Nat.le_refl _) (Nat.le_refl _) ?_
  have t_7 := hT
  refine lv_aload_n hx hb dX6_coinIfFallen_23 rfl (lv_at hl 1 rfl) ?_
  refine va_get (D := D) (ci := 6) (v := .ref (a 3)) (C := RX6) (T := TX6) (N := 9) hx hb htg ig_6 hown hK hP 0 (oh_wg (by decide) (sX_0 hT)) rfl 3 (by decide) (htg _ q_261) (fun _ h9 => h9) rfl dX6_coinIfFallen_24 ?_
  refine lv_iload_n hx hb dX6_coinIfFallen_27 rfl (lv_at hl 3 rfl) ?_
  refine lv_iload_n hx hb dX6_coinIfFallen_28 rfl (lv_at hl 4 rfl) ?_
  refine lv_iload hx hb dX6_coinIfFallen_29 (lv_at hl 5 rfl) ?_
  refine lv_iload hx hb dX6_coinIfFallen_31 (lv_at hl 6 rfl) ?_
  refine lv_iconst (v := 1) hx hb dX6_coinIfFallen_33 (by decide) ?_
  refine tm_V (As := [.int x2, .int x3, .int x4, .int x5, .int 1]) (rest := []) ⟨hx, hb, hml, hown, htg⟩ (c_X5_leastCoin l D E G _ a C_4 hT x2 x3 x4 x5 (1 : Int32) (rg_w hx2 (by decide)) (rg_w hx4 (by decide)) (rg_w hx5 (by decide))) (cwV 5 htg (oh_gV q_780 q_781 q_782 q_68 q_783) rfl rfl rfl pdVX5_leastCoin ⟨Nat.le_of_ble_eq_true rfl, Nat.le_of_ble_eq_true rfl⟩) hK hP hD hG hS hA (va_recv hK hP (ci := 5) (q0 := 3) rfl (oh_wg (by decide) (sX_3 hT))) rfl hl.1 rfl (Nat.le_of_ble_eq_true rfl) dX6_coinIfFallen_34 ⟨Nat.le_of_ble_eq_true rfl, Nat.le_of_ble_eq_true rfl⟩ (fun r_8 C_9 H locs hq_10 hP hD hS => ?_)
  obtain ⟨hT, f_11, hq_10⟩ := hq_10
  have hF := fr_tr hF f_11 (by decide) (by decide)
  refine W.widen (k := 0) (n := 0) (Nat.le_refl _) (Nat.le_refl _) ?_
  have t_12 := hT
  refine lv_istore (lv' := [(7, .int r_8), (6, .int (ga (C 12) ((x1 * 10) + 8).toNatClampNeg)), (0, .ref (a 0)), (1, .int x1), (2, .int x2), (3, .int x3), (4, .int x4), (5, .int x5)]) hx hb dX6_coinIfFallen_37 hl (by decide) rfl (fun ls hl => ?_)
  refine lv_aload_n hx hb dX6_coinIfFallen_39 rfl (lv_at hl 2 rfl) ?_
  refine va_get (D := D) (ci := 6) (v := .ref (a 1)) (C := RX6) (T := TX6) (N := 9) hx hb htg ig_6 hown hK hP 0 (oh_wg (by decide) (sX_0 hT)) rfl 0 (by decide) (htg _ q_258) (fun _ h9 => h9) rfl dX6_coinIfFallen_40 ?_
  refine lv_iload_n hx hb dX6_coinIfFallen_43 rfl (lv_at hl 3 rfl) ?_
  refine lv_bipush (v := 8) hx hb dX6_coinIfFallen_44 (by decide) ?_
  refine lv_iload hx hb dX6_coinIfFallen_46 (lv_at hl 1 rfl) ?_
  refine tm_Vv (As := [.int x1, .int 8, .int (ga (C 12) ((x1 * 10) + 8).toNatClampNeg)]) (rest := []) ⟨hx, hb, hml, hown, htg⟩ (c_X0_putBridgeColumn l D E G _ a C_9 hT x1 (8 : Int32) (ga (C 12) ((x1 * 10) + 8).toNatClampNeg) (rg_w hx1 (by decide)) (rg_w (rg_c (v := 8) (lo := 8) (hi := 8) (by decide)) (by decide))) (cwV 3 htg (oh_gV q_474 q_445 q_446 q_67 q_447) rfl rfl rfl pdVX0_putBridgeColumn ⟨Nat.le_of_ble_eq_true rfl, Nat.le_of_ble_eq_true rfl⟩) hK hP hD hG hS hA (va_recv hK hP (ci := 0) (q0 := 1) rfl (oh_wg (by decide) (sX_1 hT))) rfl hl.1 rfl (Nat.le_of_ble_eq_true rfl) dX6_coinIfFallen_48 ⟨Nat.le_of_ble_eq_true rfl, Nat.le_of_ble_eq_true rfl⟩ (fun C_14 H locs hq_15 hP hD hS => ?_)
  obtain ⟨hT, f_16, hq_15⟩ := hq_15
  have hF := fr_tr hF f_16 (by decide) (by decide)
  refine W.widen (k := 0) (n := 0) (Nat.le_refl _) (Nat.le_refl _) ?_
  have t_17 := hT
  refine lv_iload hx hb dX6_coinIfFallen_51 (lv_at hl 0 rfl) ?_
  rw [hQ]
  exact W.iret (v := r_8) hx hb hr (fun t ht hW => ⟨⟨r_8, C_14, rfl, ⟨hT, hF, trivial⟩, ⟨by rw [ht]; exact hP, hD⟩⟩, hS.F ht⟩) hS.2.2 dX6_coinIfFallen_53
