set_option maxHeartbeats 4000000 in
set_option maxRecDepth 100000 in
theorem c_X4_isSound (l : Launch) (D : va_G) (E : Nat → ClassId) (G : Nat → Nat) (a : Nat → Nat) (C : Nat → va_E) (hT : TyX a E C) : Met l yX4_isSound (oh_w yX4_isSound cX4_isSound 1 (some .boolean)) ({ frames := 0, cells := 0, slots := 0, locals := 0 }) (oh_Pp D E G [.ref (a 5)] (oh_W 35 a C)) (vp_Si (fun r => (r = 0 ∨ r = 1) ∧ (r ≠ 0 → (gi (C 5) 2 = -1)))) 0 0 (fun _ => False) := by
  refine Met.ofW (cc := cX4_isSound) (maxL := 1) (ret := (some .boolean)) (by decide) rfl ?_
  intro p e s m args below meth c s₁ B hml hv
  obtain ⟨rfl, hP, hK, hG⟩ := hv
  have hx := B.exec
  have hb := B.bytes
  have hr := B.returns
  have hts := atoms_spec (ws := (oh_w yX4_isSound cX4_isSound 1 (some .boolean))) B.pre
  have htg : ∀ w ∈ oh_t, w.before _ s = true := fun w h => hts w (List.mem_cons_of_mem _ h)
  have hown : s.vm.findClass RX4 = some m.cls := findClass_of_methodNamed B.named
  have hlocks := B.notSynchronized
  have hT0 := hT
  have hS : va_S (fun _ => False) s.heap s.heap [] := va_S.rf
  have hl := lv_entry ([.ref (a 5)]) (n := 1) (Nat.le_of_ble_eq_true rfl)
  rw [lg_entry_eq]
  generalize (lg_sl ([.ref (a 5)]) ++ List.replicate (1 - (lg_sl ([.ref (a 5)])).length) Slot.unset).toArray = ls at hl ⊢
  have hl : lv_has ls 1 [(0, .ref (a 5))] := hl
  refine oh_genQ (fun Q hQ => ?_)
  refine lv_aload_n hx hb dX4_isSound_0 rfl (lv_at hl 0 rfl) ?_
  refine va_get (D := D) (ci := 4) (v := .int (gi (C 5) 2)) (C := RX4) (T := TX4) (N := 6) hx hb htg ig_4 hown hK hP 5 (oh_wg (by decide) (sX_5 hT)) rfl 2 (by decide) (htg _ q_220) (fun _ h9 => h9) rfl dX4_isSound_1 ?_
  refine lv_iconst (v := (-1)) hx hb dX4_isSound_4 (by decide) ?_
  refine lv_icmp_ne (tgt := 12) hx hb dX4_isSound_5 (by decide) (fun (c_1 : ¬ ((gi (C 5) 2) = (-1))) => ?_) (fun (c_1 : (gi (C 5) 2) = (-1)) => ?_)
  · refine lv_iconst (v := 0) hx hb dX4_isSound_12 (by decide) ?_
    rw [hQ]
    exact W.zret (v := 0) (ty := .boolean) hx hb hr (by decide) (fun t ht hW => ⟨0, rfl, ⟨(Or.inl rfl), (fun h9 => absurd rfl h9)⟩, ht⟩) (fun q h => by cases h) dX4_isSound_13
  · refine lv_iconst (v := 1) hx hb dX4_isSound_8 (by decide) ?_
    refine lv_goto (tgt := 13) hx hb dX4_isSound_9 (by decide) ?_
    rw [hQ]
    exact W.zret (v := 1) (ty := .boolean) hx hb hr (by decide) (fun t ht hW => ⟨1, rfl, ⟨(Or.inr rfl), (fun _ => c_1)⟩, ht⟩) (fun q h => by cases h) dX4_isSound_13

set_option maxHeartbeats 4000000 in
set_option maxRecDepth 100000 in
theorem c_X4_isEnd (l : Launch) (D : va_G) (E : Nat → ClassId) (G : Nat → Nat) (a : Nat → Nat) (C : Nat → va_E) (hT : TyX a E C) : Met l yX4_isEnd (oh_w yX4_isEnd cX4_isEnd 1 (some .boolean)) ({ frames := 0, cells := 0, slots := 0, locals := 0 }) (oh_Pp D E G [.ref (a 5)] (oh_W 35 a C)) (vp_Si (fun r => (r = 0 ∨ r = 1))) 0 0 (fun _ => False) := by
  refine Met.ofW (cc := cX4_isEnd) (maxL := 1) (ret := (some .boolean)) (by decide) rfl ?_
  intro p e s m args below meth c s₁ B hml hv
  obtain ⟨rfl, hP, hK, hG⟩ := hv
  have hx := B.exec
  have hb := B.bytes
  have hr := B.returns
  have hts := atoms_spec (ws := (oh_w yX4_isEnd cX4_isEnd 1 (some .boolean))) B.pre
  have htg : ∀ w ∈ oh_t, w.before _ s = true := fun w h => hts w (List.mem_cons_of_mem _ h)
  have hown : s.vm.findClass RX4 = some m.cls := findClass_of_methodNamed B.named
  have hlocks := B.notSynchronized
  have hT0 := hT
  have hS : va_S (fun _ => False) s.heap s.heap [] := va_S.rf
  have hl := lv_entry ([.ref (a 5)]) (n := 1) (Nat.le_of_ble_eq_true rfl)
  rw [lg_entry_eq]
  generalize (lg_sl ([.ref (a 5)]) ++ List.replicate (1 - (lg_sl ([.ref (a 5)])).length) Slot.unset).toArray = ls at hl ⊢
  have hl : lv_has ls 1 [(0, .ref (a 5))] := hl
  refine oh_genQ (fun Q hQ => ?_)
  refine lv_aload_n hx hb dX4_isEnd_0 rfl (lv_at hl 0 rfl) ?_
  refine va_get (D := D) (ci := 4) (v := .int (gi (C 5) 3)) (C := RX4) (T := TX4) (N := 6) hx hb htg ig_4 hown hK hP 5 (oh_wg (by decide) (sX_5 hT)) rfl 3 (by decide) (htg _ q_222) (fun _ h9 => h9) rfl dX4_isEnd_1 ?_
  refine lv_if_ne (tgt := 11) hx hb dX4_isEnd_4 (by decide) (fun (c_1 : ¬ ((gi (C 5) 3) = 0)) => ?_) (fun (c_1 : (gi (C 5) 3) = 0) => ?_)
  · refine lv_iconst (v := 0) hx hb dX4_isEnd_11 (by decide) ?_
    rw [hQ]
    exact W.zret (v := 0) (ty := .boolean) hx hb hr (by decide) (fun t ht hW => ⟨0, rfl, (Or.inl rfl), ht⟩) (fun q h => by cases h) dX4_isEnd_12
  · refine lv_iconst (v := 1) hx hb dX4_isEnd_7 (by decide) ?_
    refine lv_goto (tgt := 12) hx hb dX4_isEnd_8 (by decide) ?_
    rw [hQ]
    exact W.zret (v := 1) (ty := .boolean) hx hb hr (by decide) (fun t ht hW => ⟨1, rfl, (Or.inr rfl), ht⟩) (fun q h => by cases h) dX4_isEnd_12

set_option maxHeartbeats 4000000 in
set_option maxRecDepth 100000 in
theorem c_X4_fail (l : Launch) (D : va_G) (E : Nat → ClassId) (G : Nat → Nat) (sz : Nat) (a : Nat → Nat) (C : Nat → va_E) (hT : TyX a E C) : Met l yX4_fail (oh_w yX4_fail cX4_fail 1 none) ({ frames := 0, cells := 0, slots := 0, locals := 0 }) (oh_Pm D E G [.ref (a 5)] (oh_W 35 a C) sz) (va_Qv (fun (u : Nat → va_E) => TyX a E u ∧ fr [(5, 6)] [] C u ∧ (rg (gi (u 5) 2) 0 250)) (oh_B D (va_A (oh_W 35 a C) sz) (fun u => oh_W 35 a u)) (va_A (oh_W 35 a C) sz)) 0 0 (va_A (oh_W 35 a C) sz) := by
  refine Met.ofW (cc := cX4_fail) (maxL := 1) (ret := none) (by decide) rfl ?_
  intro p e s m args below meth c s₁ B hml hv
  obtain ⟨rfl, hsz, hP, hK, hD0, hG⟩ := hv
  have hx := B.exec
  have hb := B.bytes
  have hr := B.returns
  have hts := atoms_spec (ws := (oh_w yX4_fail cX4_fail 1 none)) B.pre
  have htg : ∀ w ∈ oh_t, w.before _ s = true := fun w h => hts w (List.mem_cons_of_mem _ h)
  have hown : s.vm.findClass RX4 = some m.cls := findClass_of_methodNamed B.named
  have hlocks := B.notSynchronized
  have hT0 := hT
  subst hsz
  have hD := hD0.self (sz := s.heap.size)
  generalize hAe : va_A (oh_W 35 a C) s.heap.size = A at hD hG ⊢
  have hA : ∀ q : Nat, s.heap.size ≤ q → A q := fun q h => by rw [← hAe]; exact Or.inr h
  have hS : va_S A s.heap s.heap [] := va_S.rf
  have hF : fr [(5, 6)] [] C C := fr_rf
  have hl := lv_entry ([.ref (a 5)]) (n := 1) (Nat.le_of_ble_eq_true rfl)
  rw [lg_entry_eq]
  generalize (lg_sl ([.ref (a 5)]) ++ List.replicate (1 - (lg_sl ([.ref (a 5)])).length) Slot.unset).toArray = ls at hl ⊢
  have hl : lv_has ls 1 [(0, .ref (a 5))] := hl
  refine oh_genQ (fun Q hQ => ?_)
  refine lv_aload_n hx hb dX4_fail_0 rfl (lv_at hl 0 rfl) ?_
  refine va_get (D := D) (ci := 4) (v := .int (gi (C 5) 2)) (C := RX4) (T := TX4) (N := 6) hx hb htg ig_4 hown hK hP 5 (oh_wg (by decide) (sX_5 hT)) rfl 2 (by decide) (htg _ q_220) (fun _ h9 => h9) rfl dX4_fail_1 ?_
  refine lv_iconst (v := (-1)) hx hb dX4_fail_4 (by decide) ?_
  refine lv_icmp_ne (tgt := 16) hx hb dX4_fail_5 (by decide) (fun (c_1 : ¬ ((gi (C 5) 2) = (-1))) => ?_) (fun (c_1 : (gi (C 5) 2) = (-1)) => ?_)
  · rw [hQ]
    exact W.vret hx hb hr (fun t ht hW => ⟨⟨C, rfl, ⟨hT, hF, (rg_w (lo := 0) (hi := 250) (rn_nel (l' := 0) c_1 (fX_5_2 hT0) (rg_c (v := (-1)) (lo := (-1)) (hi := (-1)) (by decide)) (by decide)) (by decide))⟩, ⟨by rw [ht]; exact hP, hD⟩⟩, hS.F ht⟩) hS.2.2 dX4_fail_16
  · refine lv_aload_n hx hb dX4_fail_8 rfl (lv_at hl 0 rfl) ?_
    refine lv_aload_n hx hb dX4_fail_9 rfl (lv_at hl 0 rfl) ?_
    refine va_get (D := D) (ci := 4) (v := .int (gi (C 5) 4)) (C := RX4) (T := TX4) (N := 6) hx hb htg ig_4 hown hK hP 5 (oh_wg (by decide) (sX_5 hT)) rfl 4 (by decide) (htg _ q_223) (fun _ h9 => h9) rfl dX4_fail_10 ?_
    refine th_put (Tp := TyX a E) (Rl := fr [(5, 6)] [] C) (ci := 4) (v := .int (gi (C 5) 4)) (ty := .int) (CC := RX4) (T := TX4) (N := 6) hx hb htg ig_4 tyX4 tyX4_ok nmX4 hown hK hP hD hS 5 (by decide) (sX_5 hT) rfl 2 (by decide) (htg _ q_220) (fun _ h9 => h9) rfl (by decide +kernel) rfl rfl (Nat.le_of_ble_eq_true rfl) (hT.up 5 ⟨rfl, (fX_5_1 hT), (rg_w (fX_5_4 hT0) (by decide)), (fX_5_4 hT), (fX_5_5 hT)⟩) (fr_st hF (by decide) (by decide)) dX4_fail_13 (fun C_2 H locs e_3 hT hF hP hD hS => ?_)
    have t_4 := hT
    rw [hQ]
    exact W.vret hx hb hr (fun t ht hW => ⟨⟨C_2, rfl, ⟨hT, hF, (oh_rgF (show gi (C_2 5) 2 = (gi (C 5) 4) by rw [e_3]; rfl) (rg_w (lo := 0) (hi := 250) (fX_5_4 hT0) (by decide)))⟩, ⟨by rw [ht]; exact hP, hD⟩⟩, hS.F ht⟩) hS.2.2 dX4_fail_16

set_option maxHeartbeats 4000000 in
set_option maxRecDepth 100000 in
theorem c_X4_advance (l : Launch) (D : va_G) (E : Nat → ClassId) (G : Nat → Nat) (sz : Nat) (a : Nat → Nat) (C : Nat → va_E) (hT : TyX a E C) : Met l yX4_advance (oh_w yX4_advance cX4_advance 1 none) ({ frames := 0, cells := 0, slots := 0, locals := 0 }) (oh_Pm D E G [.ref (a 5)] (oh_W 35 a C) sz) (va_Qv (fun (u : Nat → va_E) => TyX a E u ∧ fr [(5, 6)] [] C u ∧ (gi (u 5) 2 = gi (C 5) 2)) (oh_B D (va_A (oh_W 35 a C) sz) (fun u => oh_W 35 a u)) (va_A (oh_W 35 a C) sz)) 0 0 (va_A (oh_W 35 a C) sz) := by
  refine Met.ofW (cc := cX4_advance) (maxL := 1) (ret := none) (by decide) rfl ?_
  intro p e s m args below meth c s₁ B hml hv
  obtain ⟨rfl, hsz, hP, hK, hD0, hG⟩ := hv
  have hx := B.exec
  have hb := B.bytes
  have hr := B.returns
  have hts := atoms_spec (ws := (oh_w yX4_advance cX4_advance 1 none)) B.pre
  have htg : ∀ w ∈ oh_t, w.before _ s = true := fun w h => hts w (List.mem_cons_of_mem _ h)
  have hown : s.vm.findClass RX4 = some m.cls := findClass_of_methodNamed B.named
  have hlocks := B.notSynchronized
  have hT0 := hT
  subst hsz
  have hD := hD0.self (sz := s.heap.size)
  generalize hAe : va_A (oh_W 35 a C) s.heap.size = A at hD hG ⊢
  have hA : ∀ q : Nat, s.heap.size ≤ q → A q := fun q h => by rw [← hAe]; exact Or.inr h
  have hS : va_S A s.heap s.heap [] := va_S.rf
  have hF : fr [(5, 6)] [] C C := fr_rf
  have hl := lv_entry ([.ref (a 5)]) (n := 1) (Nat.le_of_ble_eq_true rfl)
  rw [lg_entry_eq]
  generalize (lg_sl ([.ref (a 5)]) ++ List.replicate (1 - (lg_sl ([.ref (a 5)])).length) Slot.unset).toArray = ls at hl ⊢
  have hl : lv_has ls 1 [(0, .ref (a 5))] := hl
  refine oh_genQ (fun Q hQ => ?_)
  refine lv_aload_n hx hb dX4_advance_0 rfl (lv_at hl 0 rfl) ?_
  refine lv_aload_n hx hb dX4_advance_1 rfl (lv_at hl 0 rfl) ?_
  refine va_get (D := D) (ci := 4) (v := .int (gi (C 5) 5)) (C := RX4) (T := TX4) (N := 6) hx hb htg ig_4 hown hK hP 5 (oh_wg (by decide) (sX_5 hT)) rfl 5 (by decide) (htg _ q_224) (fun _ h9 => h9) rfl dX4_advance_2 ?_
  refine th_put (Tp := TyX a E) (Rl := fr [(5, 6)] [] C) (ci := 4) (v := .int (gi (C 5) 5)) (ty := .int) (CC := RX4) (T := TX4) (N := 6) hx hb htg ig_4 tyX4 tyX4_ok nmX4 hown hK hP hD hS 5 (by decide) (sX_5 hT) rfl 4 (by decide) (htg _ q_223) (fun _ h9 => h9) rfl (by decide +kernel) rfl rfl (Nat.le_of_ble_eq_true rfl) (hT.up 5 ⟨rfl, (fX_5_1 hT), (fX_5_2 hT), (rg_w (fX_5_5 hT0) (by decide)), (fX_5_5 hT)⟩) (fr_st hF (by decide) (by decide)) dX4_advance_5 (fun C_1 H locs e_2 hT hF hP hD hS => ?_)
  have t_3 := hT
  have L_8 : ∀ (d : Nat) (K8 : Nat → va_E) (H : Heap) (locs : List Loc) (ls : Array Slot), (250 - (gi (K8 5) 4).toInt).toNat = d → (gi (K8 5) 2 = gi (C 5) 2) → TyX a E K8 → fr [(5, 6)] [] C K8 → fr [(5, 6)] [] C_1 K8 → va_P D vwCl (oh_W 35 a K8) H → va_D A (oh_W 35 a K8) → va_S A s.heap H locs → lv_has ls 1 [(0, .ref (a 5))] → W p l e ({ frames := 0, cells := 0, slots := 0, locals := 0 }) s m (([.ref (a 5)] : List Value).toArray) below meth c H locs 0 0 Q (F0 m 8 ls []) := by
    intro d
    induction d using Nat.strongRecOn with
    | ind d ih_8 =>
    intro K8  H locs ls hd_8 hv_8 hT hF hLF_8 hP hD hS hl
    have t_4 := hT
    refine lv_aload_n hx hb dX4_advance_8 rfl (lv_at hl 0 rfl) ?_
    refine va_get (D := D) (ci := 4) (v := .int (gi (K8 5) 4)) (C := RX4) (T := TX4) (N := 6) hx hb htg ig_4 hown hK hP 5 (oh_wg (by decide) (sX_5 hT)) rfl 4 (by decide) (htg _ q_223) (fun _ h9 => h9) rfl dX4_advance_9 ?_
    refine lv_aload_n hx hb dX4_advance_12 rfl (lv_at hl 0 rfl) ?_
    refine va_get (D := D) (ci := 4) (v := .int (gi (K8 5) 1)) (C := RX4) (T := TX4) (N := 6) hx hb htg ig_4 hown hK hP 5 (oh_wg (by decide) (sX_5 hT)) rfl 1 (by decide) (htg _ q_218) (fun _ h9 => h9) rfl dX4_advance_13 ?_
    refine lv_icmp_ge (tgt := 46) hx hb dX4_advance_16 (by decide) (fun (c_5 : (gi (K8 5) 1) ≤ (gi (K8 5) 4)) => ?_) (fun (c_5 : ¬ ((gi (K8 5) 1) ≤ (gi (K8 5) 4))) => ?_)
    · refine lv_aload_n hx hb dX4_advance_46 rfl (lv_at hl 0 rfl) ?_
      refine lv_aload_n hx hb dX4_advance_47 rfl (lv_at hl 0 rfl) ?_
      refine va_get (D := D) (ci := 4) (v := .int (gi (K8 5) 4)) (C := RX4) (T := TX4) (N := 6) hx hb htg ig_4 hown hK hP 5 (oh_wg (by decide) (sX_5 hT)) rfl 4 (by decide) (htg _ q_223) (fun _ h9 => h9) rfl dX4_advance_48 ?_
      refine th_put (Tp := TyX a E) (Rl := fr [(5, 6)] [] C) (ci := 4) (v := .int (gi (K8 5) 4)) (ty := .int) (CC := RX4) (T := TX4) (N := 6) hx hb htg ig_4 tyX4 tyX4_ok nmX4 hown hK hP hD hS 5 (by decide) (sX_5 hT) rfl 5 (by decide) (htg _ q_224) (fun _ h9 => h9) rfl (by decide +kernel) rfl rfl (Nat.le_of_ble_eq_true rfl) (hT.up 5 ⟨rfl, (fX_5_1 hT), (fX_5_2 hT), (fX_5_4 hT), (rg_w (fX_5_4 t_4) (by decide))⟩) (fr_st hF (by decide) (by decide)) dX4_advance_51 (fun C_6 H locs e_7 hT hF hP hD hS => ?_)
      have t_8 := hT
      have L_54 : ∀ (d : Nat) (K54 : Nat → va_E) (H : Heap) (locs : List Loc) (ls : Array Slot), (250 - (gi (K54 5) 5).toInt).toNat = d → (gi (K54 5) 2 = gi (C 5) 2) → TyX a E K54 → fr [(5, 6)] [] C K54 → fr [(5, 6)] [] C_6 K54 → va_P D vwCl (oh_W 35 a K54) H → va_D A (oh_W 35 a K54) → va_S A s.heap H locs → lv_has ls 1 [(0, .ref (a 5))] → W p l e ({ frames := 0, cells := 0, slots := 0, locals := 0 }) s m (([.ref (a 5)] : List Value).toArray) below meth c H locs 0 0 Q (F0 m 54 ls []) := by
        intro d
        induction d using Nat.strongRecOn with
        | ind d ih_54 =>
        intro K54  H locs ls hd_54 hv_54 hT hF hLF_54 hP hD hS hl
        have t_9 := hT
        refine lv_aload_n hx hb dX4_advance_54 rfl (lv_at hl 0 rfl) ?_
        refine va_get (D := D) (ci := 4) (v := .int (gi (K54 5) 5)) (C := RX4) (T := TX4) (N := 6) hx hb htg ig_4 hown hK hP 5 (oh_wg (by decide) (sX_5 hT)) rfl 5 (by decide) (htg _ q_224) (fun _ h9 => h9) rfl dX4_advance_55 ?_
        refine lv_aload_n hx hb dX4_advance_58 rfl (lv_at hl 0 rfl) ?_
        refine va_get (D := D) (ci := 4) (v := .int (gi (K54 5) 1)) (C := RX4) (T := TX4) (N := 6) hx hb htg ig_4 hown hK hP 5 (oh_wg (by decide) (sX_5 hT)) rfl 1 (by decide) (htg _ q_218) (fun _ h9 => h9) rfl dX4_advance_59 ?_
        refine lv_icmp_ge (tgt := 106) hx hb dX4_advance_62 (by decide) (fun (c_10 : (gi (K54 5) 1) ≤ (gi (K54 5) 5)) => ?_) (fun (c_10 : ¬ ((gi (K54 5) 1) ≤ (gi (K54 5) 5))) => ?_)
        · refine lv_aload_n hx hb dX4_advance_106 rfl (lv_at hl 0 rfl) ?_
          refine va_get (D := D) (ci := 4) (v := .int (gi (K54 5) 5)) (C := RX4) (T := TX4) (N := 6) hx hb htg ig_4 hown hK hP 5 (oh_wg (by decide) (sX_5 hT)) rfl 5 (by decide) (htg _ q_224) (fun _ h9 => h9) rfl dX4_advance_107 ?_
          refine lv_aload_n hx hb dX4_advance_110 rfl (lv_at hl 0 rfl) ?_
          refine va_get (D := D) (ci := 4) (v := .int (gi (K54 5) 4)) (C := RX4) (T := TX4) (N := 6) hx hb htg ig_4 hown hK hP 5 (oh_wg (by decide) (sX_5 hT)) rfl 4 (by decide) (htg _ q_223) (fun _ h9 => h9) rfl dX4_advance_111 ?_
          refine lv_icmp_le (tgt := 123) hx hb dX4_advance_114 (by decide) (fun (c_11 : (gi (K54 5) 5) ≤ (gi (K54 5) 4)) => ?_) (fun (c_11 : ¬ ((gi (K54 5) 5) ≤ (gi (K54 5) 4))) => ?_)
          · have L_123 : ∀ (d : Nat) (K123 : Nat → va_E) (H : Heap) (locs : List Loc) (ls : Array Slot), (250 - (gi (K123 5) 5).toInt).toNat = d → (gi (K123 5) 2 = gi (C 5) 2) → TyX a E K123 → fr [(5, 6)] [] C K123 → fr [(5, 6)] [] K54 K123 → va_P D vwCl (oh_W 35 a K123) H → va_D A (oh_W 35 a K123) → va_S A s.heap H locs → lv_has ls 1 [(0, .ref (a 5))] → W p l e ({ frames := 0, cells := 0, slots := 0, locals := 0 }) s m (([.ref (a 5)] : List Value).toArray) below meth c H locs 0 0 Q (F0 m 123 ls []) := by
              intro d
              induction d using Nat.strongRecOn with
              | ind d ih_123 =>
              intro K123  H locs ls hd_123 hv_123 hT hF hLF_123 hP hD hS hl
              have t_12 := hT
              refine lv_aload_n hx hb dX4_advance_123 rfl (lv_at hl 0 rfl) ?_
              refine va_get (D := D) (ci := 4) (v := .int (gi (K123 5) 5)) (C := RX4) (T := TX4) (N := 6) hx hb htg ig_4 hown hK hP 5 (oh_wg (by decide) (sX_5 hT)) rfl 5 (by decide) (htg _ q_224) (fun _ h9 => h9) rfl dX4_advance_124 ?_
              refine lv_aload_n hx hb dX4_advance_127 rfl (lv_at hl 0 rfl) ?_
              refine va_get (D := D) (ci := 4) (v := .int (gi (K123 5) 1)) (C := RX4) (T := TX4) (N := 6) hx hb htg ig_4 hown hK hP 5 (oh_wg (by decide) (sX_5 hT)) rfl 1 (by decide) (htg _ q_218) (fun _ h9 => h9) rfl dX4_advance_128 ?_
              refine lv_icmp_ge (tgt := 175) hx hb dX4_advance_131 (by decide) (fun (c_13 : (gi (K123 5) 1) ≤ (gi (K123 5) 5)) => ?_) (fun (c_13 : ¬ ((gi (K123 5) 1) ≤ (gi (K123 5) 5))) => ?_)
              · refine lv_aload_n hx hb dX4_advance_175 rfl (lv_at hl 0 rfl) ?_
                refine va_get (D := D) (ci := 4) (v := .int (gi (K123 5) 5)) (C := RX4) (T := TX4) (N := 6) hx hb htg ig_4 hown hK hP 5 (oh_wg (by decide) (sX_5 hT)) rfl 5 (by decide) (htg _ q_224) (fun _ h9 => h9) rfl dX4_advance_176 ?_
                refine lv_aload_n hx hb dX4_advance_179 rfl (lv_at hl 0 rfl) ?_
                refine va_get (D := D) (ci := 4) (v := .int (gi (K123 5) 4)) (C := RX4) (T := TX4) (N := 6) hx hb htg ig_4 hown hK hP 5 (oh_wg (by decide) (sX_5 hT)) rfl 4 (by decide) (htg _ q_223) (fun _ h9 => h9) rfl dX4_advance_180 ?_
                refine lv_icmp_le (tgt := 192) hx hb dX4_advance_183 (by decide) (fun (c_14 : (gi (K123 5) 5) ≤ (gi (K123 5) 4)) => ?_) (fun (c_14 : ¬ ((gi (K123 5) 5) ≤ (gi (K123 5) 4))) => ?_)
                · refine lv_aload_n hx hb dX4_advance_192 rfl (lv_at hl 0 rfl) ?_
                  refine va_get (D := D) (ci := 4) (v := .int (gi (K123 5) 4)) (C := RX4) (T := TX4) (N := 6) hx hb htg ig_4 hown hK hP 5 (oh_wg (by decide) (sX_5 hT)) rfl 4 (by decide) (htg _ q_223) (fun _ h9 => h9) rfl dX4_advance_193 ?_
                  refine lv_aload_n hx hb dX4_advance_196 rfl (lv_at hl 0 rfl) ?_
                  refine va_get (D := D) (ci := 4) (v := .int (gi (K123 5) 1)) (C := RX4) (T := TX4) (N := 6) hx hb htg ig_4 hown hK hP 5 (oh_wg (by decide) (sX_5 hT)) rfl 1 (by decide) (htg _ q_218) (fun _ h9 => h9) rfl dX4_advance_197 ?_
                  refine lv_icmp_lt (tgt := 209) hx hb dX4_advance_200 (by decide) (fun (c_15 : (gi (K123 5) 4) < (gi (K123 5) 1)) => ?_) (fun (c_15 : ¬ ((gi (K123 5) 4) < (gi (K123 5) 1))) => ?_)
                  · refine lv_aload_n hx hb dX4_advance_209 rfl (lv_at hl 0 rfl) ?_
                    refine lv_aload_n hx hb dX4_advance_210 rfl (lv_at hl 0 rfl) ?_
                    refine va_get (D := D) (ci := 4) (v := .ref (a 32)) (C := RX4) (T := TX4) (N := 6) hx hb htg ig_4 hown hK hP 5 (oh_wg (by decide) (sX_5 hT)) rfl 0 (by decide) (htg _ q_217) (fun _ h9 => h9) rfl dX4_advance_211 ?_
                    refine lv_aload_n hx hb dX4_advance_214 rfl (lv_at hl 0 rfl) ?_
                    refine va_get (D := D) (ci := 4) (v := .int (gi (K123 5) 4)) (C := RX4) (T := TX4) (N := 6) hx hb htg ig_4 hown hK hP 5 (oh_wg (by decide) (sX_5 hT)) rfl 4 (by decide) (htg _ q_223) (fun _ h9 => h9) rfl dX4_advance_215 ?_
                    have n_16 : vp_in (gi (K123 5) 4) 250 := (rg_in (rn_ltu (u' := 249) c_15 (rn_lel c_14 (rn_lel c_13 (rn_ltl (l' := 1) c_15 (fX_5_4 t_12) (fX_5_1 t_12) (by decide)) (fX_5_5 t_12)) (fX_5_4 t_12)) (fX_5_1 t_12) (by decide)) (by decide))
                    refine th_iald hx hb hK hP 32 (by decide) (Eq.trans (Eq.trans (hLF_123.1 32 rfl (by decide)) (Eq.trans (hLF_54.1 32 rfl (by decide)) (Eq.trans (th_un e_7 (by decide)) (Eq.trans (hLF_8.1 32 rfl (by decide)) (th_un e_2 (by decide)))))) (sX_32 hT0)) n_16 dX4_advance_218 ?_
                    refine lv_bipush (v := 59) hx hb dX4_advance_219 (by decide) ?_
                    refine lv_icmp_ne (tgt := 228) hx hb dX4_advance_221 (by decide) (fun (c_17 : ¬ ((ga (C 32) (gi (K123 5) 4).toNatClampNeg) = 59)) => ?_) (fun (c_17 : (ga (C 32) (gi (K123 5) 4).toNatClampNeg) = 59) => ?_)
                    · refine lv_iconst (v := 4) hx hb dX4_advance_228 (by decide) ?_
                      refine th_put (Tp := TyX a E) (Rl := fr [(5, 6)] [] C) (ci := 4) (v := .int 4) (ty := .int) (CC := RX4) (T := TX4) (N := 6) hx hb htg ig_4 tyX4 tyX4_ok nmX4 hown hK hP hD hS 5 (by decide) (sX_5 hT) rfl 3 (by decide) (htg _ q_222) (fun _ h9 => h9) rfl (by decide +kernel) rfl rfl (Nat.le_of_ble_eq_true rfl) (hT.up 5 ⟨rfl, (fX_5_1 hT), (fX_5_2 hT), (fX_5_4 hT), (fX_5_5 hT)⟩) (fr_st hF (by decide) (by decide)) dX4_advance_229 (fun C_18 H locs e_19 hT hF hP hD hS => ?_)
                      have t_20 := hT
                      refine lv_aload_n hx hb dX4_advance_232 rfl (lv_at hl 0 rfl) ?_
                      refine lv_aload_n hx hb dX4_advance_233 rfl (lv_at hl 0 rfl) ?_
                      refine va_get (D := D) (ci := 4) (v := .int (gi (K123 5) 4)) (C := RX4) (T := TX4) (N := 6) hx hb htg ig_4 hown hK hP 5 (oh_wg (by decide) (sX_5 hT)) rfl 4 (by decide) (htg _ q_223) (fun _ h9 => h9) (oh_fv (c := C_18 5) (j := 4) rfl (show gi (C_18 5) 4 = gi (K123 5) 4 by rw [e_19]; rfl)) dX4_advance_234 ?_
                      refine lv_iconst (v := 1) hx hb dX4_advance_237 (by decide) ?_
                      refine lv_iadd hx hb dX4_advance_238 ?_
                      refine th_put (Tp := TyX a E) (Rl := fr [(5, 6)] [] C) (ci := 4) (v := .int ((gi (K123 5) 4) + 1)) (ty := .int) (CC := RX4) (T := TX4) (N := 6) hx hb htg ig_4 tyX4 tyX4_ok nmX4 hown hK hP hD hS 5 (by decide) (sX_5 hT) rfl 5 (by decide) (htg _ q_224) (fun _ h9 => h9) rfl (by decide +kernel) rfl rfl (Nat.le_of_ble_eq_true rfl) (hT.up 5 ⟨rfl, (fX_5_1 hT), (fX_5_2 hT), (fX_5_4 hT), (rg_w (rg_add (lo := 2) (hi := 250) (rn_ltu (u' := 249) c_15 (rn_lel c_14 (rn_lel c_13 (rn_ltl (l' := 1) c_15 (fX_5_4 t_12) (fX_5_1 t_12) (by decide)) (fX_5_5 t_12)) (fX_5_4 t_12)) (fX_5_1 t_12) (by decide)) (rg_c (v := 1) (lo := 1) (hi := 1) (by decide)) (by decide)) (by decide))⟩) (fr_st hF (by decide) (by decide)) dX4_advance_239 (fun C_21 H locs e_22 hT hF hP hD hS => ?_)
                      have t_23 := hT
                      rw [hQ]
                      exact W.vret hx hb hr (fun t ht hW => ⟨⟨C_21, rfl, ⟨hT, hF, (Eq.trans (Eq.trans (show gi (C_21 5) 2 = gi (C_18 5) 2 by rw [e_22]; rfl) (show gi (C_18 5) 2 = gi (K123 5) 2 by rw [e_19]; rfl)) hv_123)⟩, ⟨by rw [ht]; exact hP, hD⟩⟩, hS.F ht⟩) hS.2.2 dX4_advance_242
                    · refine lv_iconst (v := 3) hx hb dX4_advance_224 (by decide) ?_
                      refine lv_goto (tgt := 229) hx hb dX4_advance_225 (by decide) ?_
                      refine th_put (Tp := TyX a E) (Rl := fr [(5, 6)] [] C) (ci := 4) (v := .int 3) (ty := .int) (CC := RX4) (T := TX4) (N := 6) hx hb htg ig_4 tyX4 tyX4_ok nmX4 hown hK hP hD hS 5 (by decide) (sX_5 hT) rfl 3 (by decide) (htg _ q_222) (fun _ h9 => h9) rfl (by decide +kernel) rfl rfl (Nat.le_of_ble_eq_true rfl) (hT.up 5 ⟨rfl, (fX_5_1 hT), (fX_5_2 hT), (fX_5_4 hT), (fX_5_5 hT)⟩) (fr_st hF (by decide) (by decide)) dX4_advance_229 (fun C_24 H locs e_25 hT hF hP hD hS => ?_)
                      have t_26 := hT
                      refine lv_aload_n hx hb dX4_advance_232 rfl (lv_at hl 0 rfl) ?_
                      refine lv_aload_n hx hb dX4_advance_233 rfl (lv_at hl 0 rfl) ?_
                      refine va_get (D := D) (ci := 4) (v := .int (gi (K123 5) 4)) (C := RX4) (T := TX4) (N := 6) hx hb htg ig_4 hown hK hP 5 (oh_wg (by decide) (sX_5 hT)) rfl 4 (by decide) (htg _ q_223) (fun _ h9 => h9) (oh_fv (c := C_24 5) (j := 4) rfl (show gi (C_24 5) 4 = gi (K123 5) 4 by rw [e_25]; rfl)) dX4_advance_234 ?_
                      refine lv_iconst (v := 1) hx hb dX4_advance_237 (by decide) ?_
                      refine lv_iadd hx hb dX4_advance_238 ?_
                      refine th_put (Tp := TyX a E) (Rl := fr [(5, 6)] [] C) (ci := 4) (v := .int ((gi (K123 5) 4) + 1)) (ty := .int) (CC := RX4) (T := TX4) (N := 6) hx hb htg ig_4 tyX4 tyX4_ok nmX4 hown hK hP hD hS 5 (by decide) (sX_5 hT) rfl 5 (by decide) (htg _ q_224) (fun _ h9 => h9) rfl (by decide +kernel) rfl rfl (Nat.le_of_ble_eq_true rfl) (hT.up 5 ⟨rfl, (fX_5_1 hT), (fX_5_2 hT), (fX_5_4 hT), (rg_w (rg_add (lo := 2) (hi := 250) (rn_ltu (u' := 249) c_15 (rn_lel c_14 (rn_lel c_13 (rn_ltl (l' := 1) c_15 (fX_5_4 t_12) (fX_5_1 t_12) (by decide)) (fX_5_5 t_12)) (fX_5_4 t_12)) (fX_5_1 t_12) (by decide)) (rg_c (v := 1) (lo := 1) (hi := 1) (by decide)) (by decide)) (by decide))⟩) (fr_st hF (by decide) (by decide)) dX4_advance_239 (fun C_27 H locs e_28 hT hF hP hD hS => ?_)
                      have t_29 := hT
                      rw [hQ]
                      exact W.vret hx hb hr (fun t ht hW => ⟨⟨C_27, rfl, ⟨hT, hF, (Eq.trans (Eq.trans (show gi (C_27 5) 2 = gi (C_24 5) 2 by rw [e_28]; rfl) (show gi (C_24 5) 2 = gi (K123 5) 2 by rw [e_25]; rfl)) hv_123)⟩, ⟨by rw [ht]; exact hP, hD⟩⟩, hS.F ht⟩) hS.2.2 dX4_advance_242
                  · refine lv_aload_n hx hb dX4_advance_203 rfl (lv_at hl 0 rfl) ?_
                    refine lv_iconst (v := 0) hx hb dX4_advance_204 (by decide) ?_
                    refine th_put (Tp := TyX a E) (Rl := fr [(5, 6)] [] C) (ci := 4) (v := .int 0) (ty := .int) (CC := RX4) (T := TX4) (N := 6) hx hb htg ig_4 tyX4 tyX4_ok nmX4 hown hK hP hD hS 5 (by decide) (sX_5 hT) rfl 3 (by decide) (htg _ q_222) (fun _ h9 => h9) rfl (by decide +kernel) rfl rfl (Nat.le_of_ble_eq_true rfl) (hT.up 5 ⟨rfl, (fX_5_1 hT), (fX_5_2 hT), (fX_5_4 hT), (fX_5_5 hT)⟩) (fr_st hF (by decide) (by decide)) dX4_advance_205 (fun C_30 H locs e_31 hT hF hP hD hS => ?_)
                    have t_32 := hT
                    rw [hQ]
                    exact W.vret hx hb hr (fun t ht hW => ⟨⟨C_30, rfl, ⟨hT, hF, (Eq.trans (show gi (C_30 5) 2 = gi (K123 5) 2 by rw [e_31]; rfl) hv_123)⟩, ⟨by rw [ht]; exact hP, hD⟩⟩, hS.F ht⟩) hS.2.2 dX4_advance_208
                · refine lv_aload_n hx hb dX4_advance_186 rfl (lv_at hl 0 rfl) ?_
                  refine lv_iconst (v := 2) hx hb dX4_advance_187 (by decide) ?_
                  refine th_put (Tp := TyX a E) (Rl := fr [(5, 6)] [] C) (ci := 4) (v := .int 2) (ty := .int) (CC := RX4) (T := TX4) (N := 6) hx hb htg ig_4 tyX4 tyX4_ok nmX4 hown hK hP hD hS 5 (by decide) (sX_5 hT) rfl 3 (by decide) (htg _ q_222) (fun _ h9 => h9) rfl (by decide +kernel) rfl rfl (Nat.le_of_ble_eq_true rfl) (hT.up 5 ⟨rfl, (fX_5_1 hT), (fX_5_2 hT), (fX_5_4 hT), (fX_5_5 hT)⟩) (fr_st hF (by decide) (by decide)) dX4_advance_188 (fun C_33 H locs e_34 hT hF hP hD hS => ?_)
                  have t_35 := hT
                  rw [hQ]
                  exact W.vret hx hb hr (fun t ht hW => ⟨⟨C_33, rfl, ⟨hT, hF, (Eq.trans (show gi (C_33 5) 2 = gi (K123 5) 2 by rw [e_34]; rfl) hv_123)⟩, ⟨by rw [ht]; exact hP, hD⟩⟩, hS.F ht⟩) hS.2.2 dX4_advance_191
              · refine lv_aload_n hx hb dX4_advance_134 rfl (lv_at hl 0 rfl) ?_
                refine va_get (D := D) (ci := 4) (v := .ref (a 32)) (C := RX4) (T := TX4) (N := 6) hx hb htg ig_4 hown hK hP 5 (oh_wg (by decide) (sX_5 hT)) rfl 0 (by decide) (htg _ q_217) (fun _ h9 => h9) rfl dX4_advance_135 ?_
                refine lv_aload_n hx hb dX4_advance_138 rfl (lv_at hl 0 rfl) ?_
                refine va_get (D := D) (ci := 4) (v := .int (gi (K123 5) 5)) (C := RX4) (T := TX4) (N := 6) hx hb htg ig_4 hown hK hP 5 (oh_wg (by decide) (sX_5 hT)) rfl 5 (by decide) (htg _ q_224) (fun _ h9 => h9) rfl dX4_advance_139 ?_
                have n_36 : vp_in (gi (K123 5) 5) 250 := (rg_in (rn_ltu (u' := 249) (Int32.not_le.mp c_13) (fX_5_5 t_12) (fX_5_1 t_12) (by decide)) (by decide))
                refine th_iald hx hb hK hP 32 (by decide) (Eq.trans (Eq.trans (hLF_123.1 32 rfl (by decide)) (Eq.trans (hLF_54.1 32 rfl (by decide)) (Eq.trans (th_un e_7 (by decide)) (Eq.trans (hLF_8.1 32 rfl (by decide)) (th_un e_2 (by decide)))))) (sX_32 hT0)) n_36 dX4_advance_142 ?_
                refine lv_bipush (v := 48) hx hb dX4_advance_143 (by decide) ?_
                refine lv_icmp_lt (tgt := 175) hx hb dX4_advance_145 (by decide) (fun (c_37 : (ga (C 32) (gi (K123 5) 5).toNatClampNeg) < 48) => ?_) (fun (c_37 : ¬ ((ga (C 32) (gi (K123 5) 5).toNatClampNeg) < 48)) => ?_)
                · refine lv_aload_n hx hb dX4_advance_175 rfl (lv_at hl 0 rfl) ?_
                  refine va_get (D := D) (ci := 4) (v := .int (gi (K123 5) 5)) (C := RX4) (T := TX4) (N := 6) hx hb htg ig_4 hown hK hP 5 (oh_wg (by decide) (sX_5 hT)) rfl 5 (by decide) (htg _ q_224) (fun _ h9 => h9) rfl dX4_advance_176 ?_
                  refine lv_aload_n hx hb dX4_advance_179 rfl (lv_at hl 0 rfl) ?_
                  refine va_get (D := D) (ci := 4) (v := .int (gi (K123 5) 4)) (C := RX4) (T := TX4) (N := 6) hx hb htg ig_4 hown hK hP 5 (oh_wg (by decide) (sX_5 hT)) rfl 4 (by decide) (htg _ q_223) (fun _ h9 => h9) rfl dX4_advance_180 ?_
                  refine lv_icmp_le (tgt := 192) hx hb dX4_advance_183 (by decide) (fun (c_38 : (gi (K123 5) 5) ≤ (gi (K123 5) 4)) => ?_) (fun (c_38 : ¬ ((gi (K123 5) 5) ≤ (gi (K123 5) 4))) => ?_)
                  · refine lv_aload_n hx hb dX4_advance_192 rfl (lv_at hl 0 rfl) ?_
                    refine va_get (D := D) (ci := 4) (v := .int (gi (K123 5) 4)) (C := RX4) (T := TX4) (N := 6) hx hb htg ig_4 hown hK hP 5 (oh_wg (by decide) (sX_5 hT)) rfl 4 (by decide) (htg _ q_223) (fun _ h9 => h9) rfl dX4_advance_193 ?_
                    refine lv_aload_n hx hb dX4_advance_196 rfl (lv_at hl 0 rfl) ?_
                    refine va_get (D := D) (ci := 4) (v := .int (gi (K123 5) 1)) (C := RX4) (T := TX4) (N := 6) hx hb htg ig_4 hown hK hP 5 (oh_wg (by decide) (sX_5 hT)) rfl 1 (by decide) (htg _ q_218) (fun _ h9 => h9) rfl dX4_advance_197 ?_
                    refine lv_icmp_lt (tgt := 209) hx hb dX4_advance_200 (by decide) (fun (c_39 : (gi (K123 5) 4) < (gi (K123 5) 1)) => ?_) (fun (c_39 : ¬ ((gi (K123 5) 4) < (gi (K123 5) 1))) => ?_)
                    · refine lv_aload_n hx hb dX4_advance_209 rfl (lv_at hl 0 rfl) ?_
                      refine lv_aload_n hx hb dX4_advance_210 rfl (lv_at hl 0 rfl) ?_
                      refine va_get (D := D) (ci := 4) (v := .ref (a 32)) (C := RX4) (T := TX4) (N := 6) hx hb htg ig_4 hown hK hP 5 (oh_wg (by decide) (sX_5 hT)) rfl 0 (by decide) (htg _ q_217) (fun _ h9 => h9) rfl dX4_advance_211 ?_
                      refine lv_aload_n hx hb dX4_advance_214 rfl (lv_at hl 0 rfl) ?_
                      refine va_get (D := D) (ci := 4) (v := .int (gi (K123 5) 4)) (C := RX4) (T := TX4) (N := 6) hx hb htg ig_4 hown hK hP 5 (oh_wg (by decide) (sX_5 hT)) rfl 4 (by decide) (htg _ q_223) (fun _ h9 => h9) rfl dX4_advance_215 ?_
                      have n_40 : vp_in (gi (K123 5) 4) 250 := (rg_in (rn_ltu (u' := 249) c_39 (fX_5_4 t_12) (rn_ltl (l' := 1) (Int32.not_le.mp c_13) (fX_5_5 t_12) (fX_5_1 t_12) (by decide)) (by decide)) (by decide))
                      refine th_iald hx hb hK hP 32 (by decide) (Eq.trans (Eq.trans (hLF_123.1 32 rfl (by decide)) (Eq.trans (hLF_54.1 32 rfl (by decide)) (Eq.trans (th_un e_7 (by decide)) (Eq.trans (hLF_8.1 32 rfl (by decide)) (th_un e_2 (by decide)))))) (sX_32 hT0)) n_40 dX4_advance_218 ?_
                      refine lv_bipush (v := 59) hx hb dX4_advance_219 (by decide) ?_
                      refine lv_icmp_ne (tgt := 228) hx hb dX4_advance_221 (by decide) (fun (c_41 : ¬ ((ga (C 32) (gi (K123 5) 4).toNatClampNeg) = 59)) => ?_) (fun (c_41 : (ga (C 32) (gi (K123 5) 4).toNatClampNeg) = 59) => ?_)
                      · refine lv_iconst (v := 4) hx hb dX4_advance_228 (by decide) ?_
                        refine th_put (Tp := TyX a E) (Rl := fr [(5, 6)] [] C) (ci := 4) (v := .int 4) (ty := .int) (CC := RX4) (T := TX4) (N := 6) hx hb htg ig_4 tyX4 tyX4_ok nmX4 hown hK hP hD hS 5 (by decide) (sX_5 hT) rfl 3 (by decide) (htg _ q_222) (fun _ h9 => h9) rfl (by decide +kernel) rfl rfl (Nat.le_of_ble_eq_true rfl) (hT.up 5 ⟨rfl, (fX_5_1 hT), (fX_5_2 hT), (fX_5_4 hT), (fX_5_5 hT)⟩) (fr_st hF (by decide) (by decide)) dX4_advance_229 (fun C_42 H locs e_43 hT hF hP hD hS => ?_)
                        have t_44 := hT
                        refine lv_aload_n hx hb dX4_advance_232 rfl (lv_at hl 0 rfl) ?_
                        refine lv_aload_n hx hb dX4_advance_233 rfl (lv_at hl 0 rfl) ?_
                        refine va_get (D := D) (ci := 4) (v := .int (gi (K123 5) 4)) (C := RX4) (T := TX4) (N := 6) hx hb htg ig_4 hown hK hP 5 (oh_wg (by decide) (sX_5 hT)) rfl 4 (by decide) (htg _ q_223) (fun _ h9 => h9) (oh_fv (c := C_42 5) (j := 4) rfl (show gi (C_42 5) 4 = gi (K123 5) 4 by rw [e_43]; rfl)) dX4_advance_234 ?_
                        refine lv_iconst (v := 1) hx hb dX4_advance_237 (by decide) ?_
                        refine lv_iadd hx hb dX4_advance_238 ?_
                        refine th_put (Tp := TyX a E) (Rl := fr [(5, 6)] [] C) (ci := 4) (v := .int ((gi (K123 5) 4) + 1)) (ty := .int) (CC := RX4) (T := TX4) (N := 6) hx hb htg ig_4 tyX4 tyX4_ok nmX4 hown hK hP hD hS 5 (by decide) (sX_5 hT) rfl 5 (by decide) (htg _ q_224) (fun _ h9 => h9) rfl (by decide +kernel) rfl rfl (Nat.le_of_ble_eq_true rfl) (hT.up 5 ⟨rfl, (fX_5_1 hT), (fX_5_2 hT), (fX_5_4 hT), (rg_w (rg_add (lo := 1) (hi := 250) (rn_ltu (u' := 249) c_39 (fX_5_4 t_12) (rn_ltl (l' := 1) (Int32.not_le.mp c_13) (fX_5_5 t_12) (fX_5_1 t_12) (by decide)) (by decide)) (rg_c (v := 1) (lo := 1) (hi := 1) (by decide)) (by decide)) (by decide))⟩) (fr_st hF (by decide) (by decide)) dX4_advance_239 (fun C_45 H locs e_46 hT hF hP hD hS => ?_)
                        have t_47 := hT
                        rw [hQ]
                        exact W.vret hx hb hr (fun t ht hW => ⟨⟨C_45, rfl, ⟨hT, hF, (Eq.trans (Eq.trans (show gi (C_45 5) 2 = gi (C_42 5) 2 by rw [e_46]; rfl) (show gi (C_42 5) 2 = gi (K123 5) 2 by rw [e_43]; rfl)) hv_123)⟩, ⟨by rw [ht]; exact hP, hD⟩⟩, hS.F ht⟩) hS.2.2 dX4_advance_242
                      · refine lv_iconst (v := 3) hx hb dX4_advance_224 (by decide) ?_
                        refine lv_goto (tgt := 229) hx hb dX4_advance_225 (by decide) ?_
                        refine th_put (Tp := TyX a E) (Rl := fr [(5, 6)] [] C) (ci := 4) (v := .int 3) (ty := .int) (CC := RX4) (T := TX4) (N := 6) hx hb htg ig_4 tyX4 tyX4_ok nmX4 hown hK hP hD hS 5 (by decide) (sX_5 hT) rfl 3 (by decide) (htg _ q_222) (fun _ h9 => h9) rfl (by decide +kernel) rfl rfl (Nat.le_of_ble_eq_true rfl) (hT.up 5 ⟨rfl, (fX_5_1 hT), (fX_5_2 hT), (fX_5_4 hT), (fX_5_5 hT)⟩) (fr_st hF (by decide) (by decide)) dX4_advance_229 (fun C_48 H locs e_49 hT hF hP hD hS => ?_)
                        have t_50 := hT
                        refine lv_aload_n hx hb dX4_advance_232 rfl (lv_at hl 0 rfl) ?_
                        refine lv_aload_n hx hb dX4_advance_233 rfl (lv_at hl 0 rfl) ?_
                        refine va_get (D := D) (ci := 4) (v := .int (gi (K123 5) 4)) (C := RX4) (T := TX4) (N := 6) hx hb htg ig_4 hown hK hP 5 (oh_wg (by decide) (sX_5 hT)) rfl 4 (by decide) (htg _ q_223) (fun _ h9 => h9) (oh_fv (c := C_48 5) (j := 4) rfl (show gi (C_48 5) 4 = gi (K123 5) 4 by rw [e_49]; rfl)) dX4_advance_234 ?_
                        refine lv_iconst (v := 1) hx hb dX4_advance_237 (by decide) ?_
                        refine lv_iadd hx hb dX4_advance_238 ?_
                        refine th_put (Tp := TyX a E) (Rl := fr [(5, 6)] [] C) (ci := 4) (v := .int ((gi (K123 5) 4) + 1)) (ty := .int) (CC := RX4) (T := TX4) (N := 6) hx hb htg ig_4 tyX4 tyX4_ok nmX4 hown hK hP hD hS 5 (by decide) (sX_5 hT) rfl 5 (by decide) (htg _ q_224) (fun _ h9 => h9) rfl (by decide +kernel) rfl rfl (Nat.le_of_ble_eq_true rfl) (hT.up 5 ⟨rfl, (fX_5_1 hT), (fX_5_2 hT), (fX_5_4 hT), (rg_w (rg_add (lo := 1) (hi := 250) (rn_ltu (u' := 249) c_39 (fX_5_4 t_12) (rn_ltl (l' := 1) (Int32.not_le.mp c_13) (fX_5_5 t_12) (fX_5_1 t_12) (by decide)) (by decide)) (rg_c (v := 1) (lo := 1) (hi := 1) (by decide)) (by decide)) (by decide))⟩) (fr_st hF (by decide) (by decide)) dX4_advance_239 (fun C_51 H locs e_52 hT hF hP hD hS => ?_)
                        have t_53 := hT
                        rw [hQ]
                        exact W.vret hx hb hr (fun t ht hW => ⟨⟨C_51, rfl, ⟨hT, hF, (Eq.trans (Eq.trans (show gi (C_51 5) 2 = gi (C_48 5) 2 by rw [e_52]; rfl) (show gi (C_48 5) 2 = gi (K123 5) 2 by rw [e_49]; rfl)) hv_123)⟩, ⟨by rw [ht]; exact hP, hD⟩⟩, hS.F ht⟩) hS.2.2 dX4_advance_242
                    · refine lv_aload_n hx hb dX4_advance_203 rfl (lv_at hl 0 rfl) ?_
                      refine lv_iconst (v := 0) hx hb dX4_advance_204 (by decide) ?_
                      refine th_put (Tp := TyX a E) (Rl := fr [(5, 6)] [] C) (ci := 4) (v := .int 0) (ty := .int) (CC := RX4) (T := TX4) (N := 6) hx hb htg ig_4 tyX4 tyX4_ok nmX4 hown hK hP hD hS 5 (by decide) (sX_5 hT) rfl 3 (by decide) (htg _ q_222) (fun _ h9 => h9) rfl (by decide +kernel) rfl rfl (Nat.le_of_ble_eq_true rfl) (hT.up 5 ⟨rfl, (fX_5_1 hT), (fX_5_2 hT), (fX_5_4 hT), (fX_5_5 hT)⟩) (fr_st hF (by decide) (by decide)) dX4_advance_205 (fun C_54 H locs e_55 hT hF hP hD hS => ?_)
                      have t_56 := hT
                      rw [hQ]
                      exact W.vret hx hb hr (fun t ht hW => ⟨⟨C_54, rfl, ⟨hT, hF, (Eq.trans (show gi (C_54 5) 2 = gi (K123 5) 2 by rw [e_55]; rfl) hv_123)⟩, ⟨by rw [ht]; exact hP, hD⟩⟩, hS.F ht⟩) hS.2.2 dX4_advance_208
                  · refine lv_aload_n hx hb dX4_advance_186 rfl (lv_at hl 0 rfl) ?_
                    refine lv_iconst (v := 2) hx hb dX4_advance_187 (by decide) ?_
                    refine th_put (Tp := TyX a E) (Rl := fr [(5, 6)] [] C) (ci := 4) (v := .int 2) (ty := .int) (CC := RX4) (T := TX4) (N := 6) hx hb htg ig_4 tyX4 tyX4_ok nmX4 hown hK hP hD hS 5 (by decide) (sX_5 hT) rfl 3 (by decide) (htg _ q_222) (fun _ h9 => h9) rfl (by decide +kernel) rfl rfl (Nat.le_of_ble_eq_true rfl) (hT.up 5 ⟨rfl, (fX_5_1 hT), (fX_5_2 hT), (fX_5_4 hT), (fX_5_5 hT)⟩) (fr_st hF (by decide) (by decide)) dX4_advance_188 (fun C_57 H locs e_58 hT hF hP hD hS => ?_)
                    have t_59 := hT
                    rw [hQ]
                    exact W.vret hx hb hr (fun t ht hW => ⟨⟨C_57, rfl, ⟨hT, hF, (Eq.trans (show gi (C_57 5) 2 = gi (K123 5) 2 by rw [e_58]; rfl) hv_123)⟩, ⟨by rw [ht]; exact hP, hD⟩⟩, hS.F ht⟩) hS.2.2 dX4_advance_191
                · refine lv_aload_n hx hb dX4_advance_148 rfl (lv_at hl 0 rfl) ?_
                  refine va_get (D := D) (ci := 4) (v := .ref (a 32)) (C := RX4) (T := TX4) (N := 6) hx hb htg ig_4 hown hK hP 5 (oh_wg (by decide) (sX_5 hT)) rfl 0 (by decide) (htg _ q_217) (fun _ h9 => h9) rfl dX4_advance_149 ?_
                  refine lv_aload_n hx hb dX4_advance_152 rfl (lv_at hl 0 rfl) ?_
                  refine va_get (D := D) (ci := 4) (v := .int (gi (K123 5) 5)) (C := RX4) (T := TX4) (N := 6) hx hb htg ig_4 hown hK hP 5 (oh_wg (by decide) (sX_5 hT)) rfl 5 (by decide) (htg _ q_224) (fun _ h9 => h9) rfl dX4_advance_153 ?_
                  have n_60 : vp_in (gi (K123 5) 5) 250 := (rg_in (rn_ltu (u' := 249) (Int32.not_le.mp c_13) (fX_5_5 t_12) (fX_5_1 t_12) (by decide)) (by decide))
                  refine th_iald hx hb hK hP 32 (by decide) (Eq.trans (Eq.trans (hLF_123.1 32 rfl (by decide)) (Eq.trans (hLF_54.1 32 rfl (by decide)) (Eq.trans (th_un e_7 (by decide)) (Eq.trans (hLF_8.1 32 rfl (by decide)) (th_un e_2 (by decide)))))) (sX_32 hT0)) n_60 dX4_advance_156 ?_
                  refine lv_bipush (v := 57) hx hb dX4_advance_157 (by decide) ?_
                  refine lv_icmp_gt (tgt := 175) hx hb dX4_advance_159 (by decide) (fun (c_61 : (57 : Int32) < (ga (C 32) (gi (K123 5) 5).toNatClampNeg)) => ?_) (fun (c_61 : ¬ ((57 : Int32) < (ga (C 32) (gi (K123 5) 5).toNatClampNeg))) => ?_)
                  · refine lv_aload_n hx hb dX4_advance_175 rfl (lv_at hl 0 rfl) ?_
                    refine va_get (D := D) (ci := 4) (v := .int (gi (K123 5) 5)) (C := RX4) (T := TX4) (N := 6) hx hb htg ig_4 hown hK hP 5 (oh_wg (by decide) (sX_5 hT)) rfl 5 (by decide) (htg _ q_224) (fun _ h9 => h9) rfl dX4_advance_176 ?_
                    refine lv_aload_n hx hb dX4_advance_179 rfl (lv_at hl 0 rfl) ?_
                    refine va_get (D := D) (ci := 4) (v := .int (gi (K123 5) 4)) (C := RX4) (T := TX4) (N := 6) hx hb htg ig_4 hown hK hP 5 (oh_wg (by decide) (sX_5 hT)) rfl 4 (by decide) (htg _ q_223) (fun _ h9 => h9) rfl dX4_advance_180 ?_
                    refine lv_icmp_le (tgt := 192) hx hb dX4_advance_183 (by decide) (fun (c_62 : (gi (K123 5) 5) ≤ (gi (K123 5) 4)) => ?_) (fun (c_62 : ¬ ((gi (K123 5) 5) ≤ (gi (K123 5) 4))) => ?_)
                    · refine lv_aload_n hx hb dX4_advance_192 rfl (lv_at hl 0 rfl) ?_
                      refine va_get (D := D) (ci := 4) (v := .int (gi (K123 5) 4)) (C := RX4) (T := TX4) (N := 6) hx hb htg ig_4 hown hK hP 5 (oh_wg (by decide) (sX_5 hT)) rfl 4 (by decide) (htg _ q_223) (fun _ h9 => h9) rfl dX4_advance_193 ?_
                      refine lv_aload_n hx hb dX4_advance_196 rfl (lv_at hl 0 rfl) ?_
                      refine va_get (D := D) (ci := 4) (v := .int (gi (K123 5) 1)) (C := RX4) (T := TX4) (N := 6) hx hb htg ig_4 hown hK hP 5 (oh_wg (by decide) (sX_5 hT)) rfl 1 (by decide) (htg _ q_218) (fun _ h9 => h9) rfl dX4_advance_197 ?_
                      refine lv_icmp_lt (tgt := 209) hx hb dX4_advance_200 (by decide) (fun (c_63 : (gi (K123 5) 4) < (gi (K123 5) 1)) => ?_) (fun (c_63 : ¬ ((gi (K123 5) 4) < (gi (K123 5) 1))) => ?_)
                      · refine lv_aload_n hx hb dX4_advance_209 rfl (lv_at hl 0 rfl) ?_
                        refine lv_aload_n hx hb dX4_advance_210 rfl (lv_at hl 0 rfl) ?_
                        refine va_get (D := D) (ci := 4) (v := .ref (a 32)) (C := RX4) (T := TX4) (N := 6) hx hb htg ig_4 hown hK hP 5 (oh_wg (by decide) (sX_5 hT)) rfl 0 (by decide) (htg _ q_217) (fun _ h9 => h9) rfl dX4_advance_211 ?_
                        refine lv_aload_n hx hb dX4_advance_214 rfl (lv_at hl 0 rfl) ?_
                        refine va_get (D := D) (ci := 4) (v := .int (gi (K123 5) 4)) (C := RX4) (T := TX4) (N := 6) hx hb htg ig_4 hown hK hP 5 (oh_wg (by decide) (sX_5 hT)) rfl 4 (by decide) (htg _ q_223) (fun _ h9 => h9) rfl dX4_advance_215 ?_
                        have n_64 : vp_in (gi (K123 5) 4) 250 := (rg_in (rn_ltu (u' := 249) c_63 (fX_5_4 t_12) (rn_ltl (l' := 1) (Int32.not_le.mp c_13) (fX_5_5 t_12) (fX_5_1 t_12) (by decide)) (by decide)) (by decide))
                        refine th_iald hx hb hK hP 32 (by decide) (Eq.trans (Eq.trans (hLF_123.1 32 rfl (by decide)) (Eq.trans (hLF_54.1 32 rfl (by decide)) (Eq.trans (th_un e_7 (by decide)) (Eq.trans (hLF_8.1 32 rfl (by decide)) (th_un e_2 (by decide)))))) (sX_32 hT0)) n_64 dX4_advance_218 ?_
                        refine lv_bipush (v := 59) hx hb dX4_advance_219 (by decide) ?_
                        refine lv_icmp_ne (tgt := 228) hx hb dX4_advance_221 (by decide) (fun (c_65 : ¬ ((ga (C 32) (gi (K123 5) 4).toNatClampNeg) = 59)) => ?_) (fun (c_65 : (ga (C 32) (gi (K123 5) 4).toNatClampNeg) = 59) => ?_)
                        · refine lv_iconst (v := 4) hx hb dX4_advance_228 (by decide) ?_
                          refine th_put (Tp := TyX a E) (Rl := fr [(5, 6)] [] C) (ci := 4) (v := .int 4) (ty := .int) (CC := RX4) (T := TX4) (N := 6) hx hb htg ig_4 tyX4 tyX4_ok nmX4 hown hK hP hD hS 5 (by decide) (sX_5 hT) rfl 3 (by decide) (htg _ q_222) (fun _ h9 => h9) rfl (by decide +kernel) rfl rfl (Nat.le_of_ble_eq_true rfl) (hT.up 5 ⟨rfl, (fX_5_1 hT), (fX_5_2 hT), (fX_5_4 hT), (fX_5_5 hT)⟩) (fr_st hF (by decide) (by decide)) dX4_advance_229 (fun C_66 H locs e_67 hT hF hP hD hS => ?_)
                          have t_68 := hT
                          refine lv_aload_n hx hb dX4_advance_232 rfl (lv_at hl 0 rfl) ?_
                          refine lv_aload_n hx hb dX4_advance_233 rfl (lv_at hl 0 rfl) ?_
                          refine va_get (D := D) (ci := 4) (v := .int (gi (K123 5) 4)) (C := RX4) (T := TX4) (N := 6) hx hb htg ig_4 hown hK hP 5 (oh_wg (by decide) (sX_5 hT)) rfl 4 (by decide) (htg _ q_223) (fun _ h9 => h9) (oh_fv (c := C_66 5) (j := 4) rfl (show gi (C_66 5) 4 = gi (K123 5) 4 by rw [e_67]; rfl)) dX4_advance_234 ?_
                          refine lv_iconst (v := 1) hx hb dX4_advance_237 (by decide) ?_
                          refine lv_iadd hx hb dX4_advance_238 ?_
                          refine th_put (Tp := TyX a E) (Rl := fr [(5, 6)] [] C) (ci := 4) (v := .int ((gi (K123 5) 4) + 1)) (ty := .int) (CC := RX4) (T := TX4) (N := 6) hx hb htg ig_4 tyX4 tyX4_ok nmX4 hown hK hP hD hS 5 (by decide) (sX_5 hT) rfl 5 (by decide) (htg _ q_224) (fun _ h9 => h9) rfl (by decide +kernel) rfl rfl (Nat.le_of_ble_eq_true rfl) (hT.up 5 ⟨rfl, (fX_5_1 hT), (fX_5_2 hT), (fX_5_4 hT), (rg_w (rg_add (lo := 1) (hi := 250) (rn_ltu (u' := 249) c_63 (fX_5_4 t_12) (rn_ltl (l' := 1) (Int32.not_le.mp c_13) (fX_5_5 t_12) (fX_5_1 t_12) (by decide)) (by decide)) (rg_c (v := 1) (lo := 1) (hi := 1) (by decide)) (by decide)) (by decide))⟩) (fr_st hF (by decide) (by decide)) dX4_advance_239 (fun C_69 H locs e_70 hT hF hP hD hS => ?_)
                          have t_71 := hT
                          rw [hQ]
                          exact W.vret hx hb hr (fun t ht hW => ⟨⟨C_69, rfl, ⟨hT, hF, (Eq.trans (Eq.trans (show gi (C_69 5) 2 = gi (C_66 5) 2 by rw [e_70]; rfl) (show gi (C_66 5) 2 = gi (K123 5) 2 by rw [e_67]; rfl)) hv_123)⟩, ⟨by rw [ht]; exact hP, hD⟩⟩, hS.F ht⟩) hS.2.2 dX4_advance_242
                        · refine lv_iconst (v := 3) hx hb dX4_advance_224 (by decide) ?_
                          refine lv_goto (tgt := 229) hx hb dX4_advance_225 (by decide) ?_
                          refine th_put (Tp := TyX a E) (Rl := fr [(5, 6)] [] C) (ci := 4) (v := .int 3) (ty := .int) (CC := RX4) (T := TX4) (N := 6) hx hb htg ig_4 tyX4 tyX4_ok nmX4 hown hK hP hD hS 5 (by decide) (sX_5 hT) rfl 3 (by decide) (htg _ q_222) (fun _ h9 => h9) rfl (by decide +kernel) rfl rfl (Nat.le_of_ble_eq_true rfl) (hT.up 5 ⟨rfl, (fX_5_1 hT), (fX_5_2 hT), (fX_5_4 hT), (fX_5_5 hT)⟩) (fr_st hF (by decide) (by decide)) dX4_advance_229 (fun C_72 H locs e_73 hT hF hP hD hS => ?_)
                          have t_74 := hT
                          refine lv_aload_n hx hb dX4_advance_232 rfl (lv_at hl 0 rfl) ?_
                          refine lv_aload_n hx hb dX4_advance_233 rfl (lv_at hl 0 rfl) ?_
                          refine va_get (D := D) (ci := 4) (v := .int (gi (K123 5) 4)) (C := RX4) (T := TX4) (N := 6) hx hb htg ig_4 hown hK hP 5 (oh_wg (by decide) (sX_5 hT)) rfl 4 (by decide) (htg _ q_223) (fun _ h9 => h9) (oh_fv (c := C_72 5) (j := 4) rfl (show gi (C_72 5) 4 = gi (K123 5) 4 by rw [e_73]; rfl)) dX4_advance_234 ?_
                          refine lv_iconst (v := 1) hx hb dX4_advance_237 (by decide) ?_
                          refine lv_iadd hx hb dX4_advance_238 ?_
                          refine th_put (Tp := TyX a E) (Rl := fr [(5, 6)] [] C) (ci := 4) (v := .int ((gi (K123 5) 4) + 1)) (ty := .int) (CC := RX4) (T := TX4) (N := 6) hx hb htg ig_4 tyX4 tyX4_ok nmX4 hown hK hP hD hS 5 (by decide) (sX_5 hT) rfl 5 (by decide) (htg _ q_224) (fun _ h9 => h9) rfl (by decide +kernel) rfl rfl (Nat.le_of_ble_eq_true rfl) (hT.up 5 ⟨rfl, (fX_5_1 hT), (fX_5_2 hT), (fX_5_4 hT), (rg_w (rg_add (lo := 1) (hi := 250) (rn_ltu (u' := 249) c_63 (fX_5_4 t_12) (rn_ltl (l' := 1) (Int32.not_le.mp c_13) (fX_5_5 t_12) (fX_5_1 t_12) (by decide)) (by decide)) (rg_c (v := 1) (lo := 1) (hi := 1) (by decide)) (by decide)) (by decide))⟩) (fr_st hF (by decide) (by decide)) dX4_advance_239 (fun C_75 H locs e_76 hT hF hP hD hS => ?_)
                          have t_77 := hT
                          rw [hQ]
                          exact W.vret hx hb hr (fun t ht hW => ⟨⟨C_75, rfl, ⟨hT, hF, (Eq.trans (Eq.trans (show gi (C_75 5) 2 = gi (C_72 5) 2 by rw [e_76]; rfl) (show gi (C_72 5) 2 = gi (K123 5) 2 by rw [e_73]; rfl)) hv_123)⟩, ⟨by rw [ht]; exact hP, hD⟩⟩, hS.F ht⟩) hS.2.2 dX4_advance_242
                      · refine lv_aload_n hx hb dX4_advance_203 rfl (lv_at hl 0 rfl) ?_
                        refine lv_iconst (v := 0) hx hb dX4_advance_204 (by decide) ?_
                        refine th_put (Tp := TyX a E) (Rl := fr [(5, 6)] [] C) (ci := 4) (v := .int 0) (ty := .int) (CC := RX4) (T := TX4) (N := 6) hx hb htg ig_4 tyX4 tyX4_ok nmX4 hown hK hP hD hS 5 (by decide) (sX_5 hT) rfl 3 (by decide) (htg _ q_222) (fun _ h9 => h9) rfl (by decide +kernel) rfl rfl (Nat.le_of_ble_eq_true rfl) (hT.up 5 ⟨rfl, (fX_5_1 hT), (fX_5_2 hT), (fX_5_4 hT), (fX_5_5 hT)⟩) (fr_st hF (by decide) (by decide)) dX4_advance_205 (fun C_78 H locs e_79 hT hF hP hD hS => ?_)
                        have t_80 := hT
                        rw [hQ]
                        exact W.vret hx hb hr (fun t ht hW => ⟨⟨C_78, rfl, ⟨hT, hF, (Eq.trans (show gi (C_78 5) 2 = gi (K123 5) 2 by rw [e_79]; rfl) hv_123)⟩, ⟨by rw [ht]; exact hP, hD⟩⟩, hS.F ht⟩) hS.2.2 dX4_advance_208
                    · refine lv_aload_n hx hb dX4_advance_186 rfl (lv_at hl 0 rfl) ?_
                      refine lv_iconst (v := 2) hx hb dX4_advance_187 (by decide) ?_
                      refine th_put (Tp := TyX a E) (Rl := fr [(5, 6)] [] C) (ci := 4) (v := .int 2) (ty := .int) (CC := RX4) (T := TX4) (N := 6) hx hb htg ig_4 tyX4 tyX4_ok nmX4 hown hK hP hD hS 5 (by decide) (sX_5 hT) rfl 3 (by decide) (htg _ q_222) (fun _ h9 => h9) rfl (by decide +kernel) rfl rfl (Nat.le_of_ble_eq_true rfl) (hT.up 5 ⟨rfl, (fX_5_1 hT), (fX_5_2 hT), (fX_5_4 hT), (fX_5_5 hT)⟩) (fr_st hF (by decide) (by decide)) dX4_advance_188 (fun C_81 H locs e_82 hT hF hP hD hS => ?_)
                      have t_83 := hT
                      rw [hQ]
                      exact W.vret hx hb hr (fun t ht hW => ⟨⟨C_81, rfl, ⟨hT, hF, (Eq.trans (show gi (C_81 5) 2 = gi (K123 5) 2 by rw [e_82]; rfl) hv_123)⟩, ⟨by rw [ht]; exact hP, hD⟩⟩, hS.F ht⟩) hS.2.2 dX4_advance_191
                  · refine lv_aload_n hx hb dX4_advance_162 rfl (lv_at hl 0 rfl) ?_
                    refine lv_dup hx hb dX4_advance_163 rfl ?_
                    refine va_get (D := D) (ci := 4) (v := .int (gi (K123 5) 5)) (C := RX4) (T := TX4) (N := 6) hx hb htg ig_4 hown hK hP 5 (oh_wg (by decide) (sX_5 hT)) rfl 5 (by decide) (htg _ q_224) (fun _ h9 => h9) rfl dX4_advance_164 ?_
                    refine lv_iconst (v := 1) hx hb dX4_advance_167 (by decide) ?_
                    refine lv_iadd hx hb dX4_advance_168 ?_
                    refine th_put (Tp := TyX a E) (Rl := fr [(5, 6)] [] C) (ci := 4) (v := .int ((gi (K123 5) 5) + 1)) (ty := .int) (CC := RX4) (T := TX4) (N := 6) hx hb htg ig_4 tyX4 tyX4_ok nmX4 hown hK hP hD hS 5 (by decide) (sX_5 hT) rfl 5 (by decide) (htg _ q_224) (fun _ h9 => h9) rfl (by decide +kernel) rfl rfl (Nat.le_of_ble_eq_true rfl) (hT.up 5 ⟨rfl, (fX_5_1 hT), (fX_5_2 hT), (fX_5_4 hT), (rg_w (rg_add (lo := 1) (hi := 250) (rn_ltu (u' := 249) (Int32.not_le.mp c_13) (fX_5_5 t_12) (fX_5_1 t_12) (by decide)) (rg_c (v := 1) (lo := 1) (hi := 1) (by decide)) (by decide)) (by decide))⟩) (fr_st hF (by decide) (by decide)) dX4_advance_169 (fun C_84 H locs e_85 hT hF hP hD hS => ?_)
                    have t_86 := hT
                    refine lv_goto (tgt := 123) hx hb dX4_advance_172 (by decide) ?_
                    exact ih_123 _ (hd_123 ▸ (by rw [(show gi (C_84 5) 5 = ((gi (K123 5) 5) + 1) by rw [e_85]; rfl)]; exact mu_up 250 (rn_ltu (u' := 249) (Int32.not_le.mp c_13) (fX_5_5 t_12) (fX_5_1 t_12) (by decide)) (by decide))) C_84  _ _ ls rfl (Eq.trans (show gi (C_84 5) 2 = gi (K123 5) 2 by rw [e_85]; rfl) hv_123) hT hF (fr_ste hLF_123 e_85 (by decide) (by decide)) hP hD hS (lv_sub hl [0] rfl)
            exact L_123 _ K54  _ _ ls rfl (Eq.trans rfl hv_54) hT hF fr_rf hP hD hS (lv_sub hl [0] rfl)
          · refine lv_aload_n hx hb dX4_advance_117 rfl (lv_at hl 0 rfl) ?_
            refine lv_iconst (v := 1) hx hb dX4_advance_118 (by decide) ?_
            refine th_put (Tp := TyX a E) (Rl := fr [(5, 6)] [] C) (ci := 4) (v := .int 1) (ty := .int) (CC := RX4) (T := TX4) (N := 6) hx hb htg ig_4 tyX4 tyX4_ok nmX4 hown hK hP hD hS 5 (by decide) (sX_5 hT) rfl 3 (by decide) (htg _ q_222) (fun _ h9 => h9) rfl (by decide +kernel) rfl rfl (Nat.le_of_ble_eq_true rfl) (hT.up 5 ⟨rfl, (fX_5_1 hT), (fX_5_2 hT), (fX_5_4 hT), (fX_5_5 hT)⟩) (fr_st hF (by decide) (by decide)) dX4_advance_119 (fun C_87 H locs e_88 hT hF hP hD hS => ?_)
            have t_89 := hT
            rw [hQ]
            exact W.vret hx hb hr (fun t ht hW => ⟨⟨C_87, rfl, ⟨hT, hF, (Eq.trans (show gi (C_87 5) 2 = gi (K54 5) 2 by rw [e_88]; rfl) hv_54)⟩, ⟨by rw [ht]; exact hP, hD⟩⟩, hS.F ht⟩) hS.2.2 dX4_advance_122
        · refine lv_aload_n hx hb dX4_advance_65 rfl (lv_at hl 0 rfl) ?_
          refine va_get (D := D) (ci := 4) (v := .ref (a 32)) (C := RX4) (T := TX4) (N := 6) hx hb htg ig_4 hown hK hP 5 (oh_wg (by decide) (sX_5 hT)) rfl 0 (by decide) (htg _ q_217) (fun _ h9 => h9) rfl dX4_advance_66 ?_
          refine lv_aload_n hx hb dX4_advance_69 rfl (lv_at hl 0 rfl) ?_
          refine va_get (D := D) (ci := 4) (v := .int (gi (K54 5) 5)) (C := RX4) (T := TX4) (N := 6) hx hb htg ig_4 hown hK hP 5 (oh_wg (by decide) (sX_5 hT)) rfl 5 (by decide) (htg _ q_224) (fun _ h9 => h9) rfl dX4_advance_70 ?_
          have n_90 : vp_in (gi (K54 5) 5) 250 := (rg_in (rn_ltu (u' := 249) (Int32.not_le.mp c_10) (fX_5_5 t_9) (fX_5_1 t_9) (by decide)) (by decide))
          refine th_iald hx hb hK hP 32 (by decide) (Eq.trans (Eq.trans (hLF_54.1 32 rfl (by decide)) (Eq.trans (th_un e_7 (by decide)) (Eq.trans (hLF_8.1 32 rfl (by decide)) (th_un e_2 (by decide))))) (sX_32 hT0)) n_90 dX4_advance_73 ?_
          refine lv_bipush (v := 97) hx hb dX4_advance_74 (by decide) ?_
          refine lv_icmp_lt (tgt := 106) hx hb dX4_advance_76 (by decide) (fun (c_91 : (ga (C 32) (gi (K54 5) 5).toNatClampNeg) < 97) => ?_) (fun (c_91 : ¬ ((ga (C 32) (gi (K54 5) 5).toNatClampNeg) < 97)) => ?_)
          · refine lv_aload_n hx hb dX4_advance_106 rfl (lv_at hl 0 rfl) ?_
            refine va_get (D := D) (ci := 4) (v := .int (gi (K54 5) 5)) (C := RX4) (T := TX4) (N := 6) hx hb htg ig_4 hown hK hP 5 (oh_wg (by decide) (sX_5 hT)) rfl 5 (by decide) (htg _ q_224) (fun _ h9 => h9) rfl dX4_advance_107 ?_
            refine lv_aload_n hx hb dX4_advance_110 rfl (lv_at hl 0 rfl) ?_
            refine va_get (D := D) (ci := 4) (v := .int (gi (K54 5) 4)) (C := RX4) (T := TX4) (N := 6) hx hb htg ig_4 hown hK hP 5 (oh_wg (by decide) (sX_5 hT)) rfl 4 (by decide) (htg _ q_223) (fun _ h9 => h9) rfl dX4_advance_111 ?_
            refine lv_icmp_le (tgt := 123) hx hb dX4_advance_114 (by decide) (fun (c_92 : (gi (K54 5) 5) ≤ (gi (K54 5) 4)) => ?_) (fun (c_92 : ¬ ((gi (K54 5) 5) ≤ (gi (K54 5) 4))) => ?_)
            · have L_123 : ∀ (d : Nat) (K123 : Nat → va_E) (H : Heap) (locs : List Loc) (ls : Array Slot), (250 - (gi (K123 5) 5).toInt).toNat = d → (gi (K123 5) 2 = gi (C 5) 2) → TyX a E K123 → fr [(5, 6)] [] C K123 → fr [(5, 6)] [] K54 K123 → va_P D vwCl (oh_W 35 a K123) H → va_D A (oh_W 35 a K123) → va_S A s.heap H locs → lv_has ls 1 [(0, .ref (a 5))] → W p l e ({ frames := 0, cells := 0, slots := 0, locals := 0 }) s m (([.ref (a 5)] : List Value).toArray) below meth c H locs 0 0 Q (F0 m 123 ls []) := by
                intro d
                induction d using Nat.strongRecOn with
                | ind d ih_123 =>
                intro K123  H locs ls hd_123 hv_123 hT hF hLF_123 hP hD hS hl
                have t_93 := hT
                refine lv_aload_n hx hb dX4_advance_123 rfl (lv_at hl 0 rfl) ?_
                refine va_get (D := D) (ci := 4) (v := .int (gi (K123 5) 5)) (C := RX4) (T := TX4) (N := 6) hx hb htg ig_4 hown hK hP 5 (oh_wg (by decide) (sX_5 hT)) rfl 5 (by decide) (htg _ q_224) (fun _ h9 => h9) rfl dX4_advance_124 ?_
                refine lv_aload_n hx hb dX4_advance_127 rfl (lv_at hl 0 rfl) ?_
                refine va_get (D := D) (ci := 4) (v := .int (gi (K123 5) 1)) (C := RX4) (T := TX4) (N := 6) hx hb htg ig_4 hown hK hP 5 (oh_wg (by decide) (sX_5 hT)) rfl 1 (by decide) (htg _ q_218) (fun _ h9 => h9) rfl dX4_advance_128 ?_
                refine lv_icmp_ge (tgt := 175) hx hb dX4_advance_131 (by decide) (fun (c_94 : (gi (K123 5) 1) ≤ (gi (K123 5) 5)) => ?_) (fun (c_94 : ¬ ((gi (K123 5) 1) ≤ (gi (K123 5) 5))) => ?_)
                · refine lv_aload_n hx hb dX4_advance_175 rfl (lv_at hl 0 rfl) ?_
                  refine va_get (D := D) (ci := 4) (v := .int (gi (K123 5) 5)) (C := RX4) (T := TX4) (N := 6) hx hb htg ig_4 hown hK hP 5 (oh_wg (by decide) (sX_5 hT)) rfl 5 (by decide) (htg _ q_224) (fun _ h9 => h9) rfl dX4_advance_176 ?_
                  refine lv_aload_n hx hb dX4_advance_179 rfl (lv_at hl 0 rfl) ?_
                  refine va_get (D := D) (ci := 4) (v := .int (gi (K123 5) 4)) (C := RX4) (T := TX4) (N := 6) hx hb htg ig_4 hown hK hP 5 (oh_wg (by decide) (sX_5 hT)) rfl 4 (by decide) (htg _ q_223) (fun _ h9 => h9) rfl dX4_advance_180 ?_
                  refine lv_icmp_le (tgt := 192) hx hb dX4_advance_183 (by decide) (fun (c_95 : (gi (K123 5) 5) ≤ (gi (K123 5) 4)) => ?_) (fun (c_95 : ¬ ((gi (K123 5) 5) ≤ (gi (K123 5) 4))) => ?_)
                  · refine lv_aload_n hx hb dX4_advance_192 rfl (lv_at hl 0 rfl) ?_
                    refine va_get (D := D) (ci := 4) (v := .int (gi (K123 5) 4)) (C := RX4) (T := TX4) (N := 6) hx hb htg ig_4 hown hK hP 5 (oh_wg (by decide) (sX_5 hT)) rfl 4 (by decide) (htg _ q_223) (fun _ h9 => h9) rfl dX4_advance_193 ?_
                    refine lv_aload_n hx hb dX4_advance_196 rfl (lv_at hl 0 rfl) ?_
                    refine va_get (D := D) (ci := 4) (v := .int (gi (K123 5) 1)) (C := RX4) (T := TX4) (N := 6) hx hb htg ig_4 hown hK hP 5 (oh_wg (by decide) (sX_5 hT)) rfl 1 (by decide) (htg _ q_218) (fun _ h9 => h9) rfl dX4_advance_197 ?_
                    refine lv_icmp_lt (tgt := 209) hx hb dX4_advance_200 (by decide) (fun (c_96 : (gi (K123 5) 4) < (gi (K123 5) 1)) => ?_) (fun (c_96 : ¬ ((gi (K123 5) 4) < (gi (K123 5) 1))) => ?_)
                    · refine lv_aload_n hx hb dX4_advance_209 rfl (lv_at hl 0 rfl) ?_
                      refine lv_aload_n hx hb dX4_advance_210 rfl (lv_at hl 0 rfl) ?_
                      refine va_get (D := D) (ci := 4) (v := .ref (a 32)) (C := RX4) (T := TX4) (N := 6) hx hb htg ig_4 hown hK hP 5 (oh_wg (by decide) (sX_5 hT)) rfl 0 (by decide) (htg _ q_217) (fun _ h9 => h9) rfl dX4_advance_211 ?_
                      refine lv_aload_n hx hb dX4_advance_214 rfl (lv_at hl 0 rfl) ?_
                      refine va_get (D := D) (ci := 4) (v := .int (gi (K123 5) 4)) (C := RX4) (T := TX4) (N := 6) hx hb htg ig_4 hown hK hP 5 (oh_wg (by decide) (sX_5 hT)) rfl 4 (by decide) (htg _ q_223) (fun _ h9 => h9) rfl dX4_advance_215 ?_
                      have n_97 : vp_in (gi (K123 5) 4) 250 := (rg_in (rn_ltu (u' := 249) c_96 (rn_lel c_95 (rn_lel c_94 (rn_ltl (l' := 1) c_96 (fX_5_4 t_93) (fX_5_1 t_93) (by decide)) (fX_5_5 t_93)) (fX_5_4 t_93)) (fX_5_1 t_93) (by decide)) (by decide))
                      refine th_iald hx hb hK hP 32 (by decide) (Eq.trans (Eq.trans (hLF_123.1 32 rfl (by decide)) (Eq.trans (hLF_54.1 32 rfl (by decide)) (Eq.trans (th_un e_7 (by decide)) (Eq.trans (hLF_8.1 32 rfl (by decide)) (th_un e_2 (by decide)))))) (sX_32 hT0)) n_97 dX4_advance_218 ?_
                      refine lv_bipush (v := 59) hx hb dX4_advance_219 (by decide) ?_
                      refine lv_icmp_ne (tgt := 228) hx hb dX4_advance_221 (by decide) (fun (c_98 : ¬ ((ga (C 32) (gi (K123 5) 4).toNatClampNeg) = 59)) => ?_) (fun (c_98 : (ga (C 32) (gi (K123 5) 4).toNatClampNeg) = 59) => ?_)
                      · refine lv_iconst (v := 4) hx hb dX4_advance_228 (by decide) ?_
                        refine th_put (Tp := TyX a E) (Rl := fr [(5, 6)] [] C) (ci := 4) (v := .int 4) (ty := .int) (CC := RX4) (T := TX4) (N := 6) hx hb htg ig_4 tyX4 tyX4_ok nmX4 hown hK hP hD hS 5 (by decide) (sX_5 hT) rfl 3 (by decide) (htg _ q_222) (fun _ h9 => h9) rfl (by decide +kernel) rfl rfl (Nat.le_of_ble_eq_true rfl) (hT.up 5 ⟨rfl, (fX_5_1 hT), (fX_5_2 hT), (fX_5_4 hT), (fX_5_5 hT)⟩) (fr_st hF (by decide) (by decide)) dX4_advance_229 (fun C_99 H locs e_100 hT hF hP hD hS => ?_)
                        have t_101 := hT
                        refine lv_aload_n hx hb dX4_advance_232 rfl (lv_at hl 0 rfl) ?_
                        refine lv_aload_n hx hb dX4_advance_233 rfl (lv_at hl 0 rfl) ?_
                        refine va_get (D := D) (ci := 4) (v := .int (gi (K123 5) 4)) (C := RX4) (T := TX4) (N := 6) hx hb htg ig_4 hown hK hP 5 (oh_wg (by decide) (sX_5 hT)) rfl 4 (by decide) (htg _ q_223) (fun _ h9 => h9) (oh_fv (c := C_99 5) (j := 4) rfl (show gi (C_99 5) 4 = gi (K123 5) 4 by rw [e_100]; rfl)) dX4_advance_234 ?_
                        refine lv_iconst (v := 1) hx hb dX4_advance_237 (by decide) ?_
                        refine lv_iadd hx hb dX4_advance_238 ?_
                        refine th_put (Tp := TyX a E) (Rl := fr [(5, 6)] [] C) (ci := 4) (v := .int ((gi (K123 5) 4) + 1)) (ty := .int) (CC := RX4) (T := TX4) (N := 6) hx hb htg ig_4 tyX4 tyX4_ok nmX4 hown hK hP hD hS 5 (by decide) (sX_5 hT) rfl 5 (by decide) (htg _ q_224) (fun _ h9 => h9) rfl (by decide +kernel) rfl rfl (Nat.le_of_ble_eq_true rfl) (hT.up 5 ⟨rfl, (fX_5_1 hT), (fX_5_2 hT), (fX_5_4 hT), (rg_w (rg_add (lo := 2) (hi := 250) (rn_ltu (u' := 249) c_96 (rn_lel c_95 (rn_lel c_94 (rn_ltl (l' := 1) c_96 (fX_5_4 t_93) (fX_5_1 t_93) (by decide)) (fX_5_5 t_93)) (fX_5_4 t_93)) (fX_5_1 t_93) (by decide)) (rg_c (v := 1) (lo := 1) (hi := 1) (by decide)) (by decide)) (by decide))⟩) (fr_st hF (by decide) (by decide)) dX4_advance_239 (fun C_102 H locs e_103 hT hF hP hD hS => ?_)
                        have t_104 := hT
                        rw [hQ]
                        exact W.vret hx hb hr (fun t ht hW => ⟨⟨C_102, rfl, ⟨hT, hF, (Eq.trans (Eq.trans (show gi (C_102 5) 2 = gi (C_99 5) 2 by rw [e_103]; rfl) (show gi (C_99 5) 2 = gi (K123 5) 2 by rw [e_100]; rfl)) hv_123)⟩, ⟨by rw [ht]; exact hP, hD⟩⟩, hS.F ht⟩) hS.2.2 dX4_advance_242
                      · refine lv_iconst (v := 3) hx hb dX4_advance_224 (by decide) ?_
                        refine lv_goto (tgt := 229) hx hb dX4_advance_225 (by decide) ?_
                        refine th_put (Tp := TyX a E) (Rl := fr [(5, 6)] [] C) (ci := 4) (v := .int 3) (ty := .int) (CC := RX4) (T := TX4) (N := 6) hx hb htg ig_4 tyX4 tyX4_ok nmX4 hown hK hP hD hS 5 (by decide) (sX_5 hT) rfl 3 (by decide) (htg _ q_222) (fun _ h9 => h9) rfl (by decide +kernel) rfl rfl (Nat.le_of_ble_eq_true rfl) (hT.up 5 ⟨rfl, (fX_5_1 hT), (fX_5_2 hT), (fX_5_4 hT), (fX_5_5 hT)⟩) (fr_st hF (by decide) (by decide)) dX4_advance_229 (fun C_105 H locs e_106 hT hF hP hD hS => ?_)
                        have t_107 := hT
                        refine lv_aload_n hx hb dX4_advance_232 rfl (lv_at hl 0 rfl) ?_
                        refine lv_aload_n hx hb dX4_advance_233 rfl (lv_at hl 0 rfl) ?_
                        refine va_get (D := D) (ci := 4) (v := .int (gi (K123 5) 4)) (C := RX4) (T := TX4) (N := 6) hx hb htg ig_4 hown hK hP 5 (oh_wg (by decide) (sX_5 hT)) rfl 4 (by decide) (htg _ q_223) (fun _ h9 => h9) (oh_fv (c := C_105 5) (j := 4) rfl (show gi (C_105 5) 4 = gi (K123 5) 4 by rw [e_106]; rfl)) dX4_advance_234 ?_
                        refine lv_iconst (v := 1) hx hb dX4_advance_237 (by decide) ?_
                        refine lv_iadd hx hb dX4_advance_238 ?_
                        refine th_put (Tp := TyX a E) (Rl := fr [(5, 6)] [] C) (ci := 4) (v := .int ((gi (K123 5) 4) + 1)) (ty := .int) (CC := RX4) (T := TX4) (N := 6) hx hb htg ig_4 tyX4 tyX4_ok nmX4 hown hK hP hD hS 5 (by decide) (sX_5 hT) rfl 5 (by decide) (htg _ q_224) (fun _ h9 => h9) rfl (by decide +kernel) rfl rfl (Nat.le_of_ble_eq_true rfl) (hT.up 5 ⟨rfl, (fX_5_1 hT), (fX_5_2 hT), (fX_5_4 hT), (rg_w (rg_add (lo := 2) (hi := 250) (rn_ltu (u' := 249) c_96 (rn_lel c_95 (rn_lel c_94 (rn_ltl (l' := 1) c_96 (fX_5_4 t_93) (fX_5_1 t_93) (by decide)) (fX_5_5 t_93)) (fX_5_4 t_93)) (fX_5_1 t_93) (by decide)) (rg_c (v := 1) (lo := 1) (hi := 1) (by decide)) (by decide)) (by decide))⟩) (fr_st hF (by decide) (by decide)) dX4_advance_239 (fun C_108 H locs e_109 hT hF hP hD hS => ?_)
                        have t_110 := hT
                        rw [hQ]
                        exact W.vret hx hb hr (fun t ht hW => ⟨⟨C_108, rfl, ⟨hT, hF, (Eq.trans (Eq.trans (show gi (C_108 5) 2 = gi (C_105 5) 2 by rw [e_109]; rfl) (show gi (C_105 5) 2 = gi (K123 5) 2 by rw [e_106]; rfl)) hv_123)⟩, ⟨by rw [ht]; exact hP, hD⟩⟩, hS.F ht⟩) hS.2.2 dX4_advance_242
                    · refine lv_aload_n hx hb dX4_advance_203 rfl (lv_at hl 0 rfl) ?_
                      refine lv_iconst (v := 0) hx hb dX4_advance_204 (by decide) ?_
                      refine th_put (Tp := TyX a E) (Rl := fr [(5, 6)] [] C) (ci := 4) (v := .int 0) (ty := .int) (CC := RX4) (T := TX4) (N := 6) hx hb htg ig_4 tyX4 tyX4_ok nmX4 hown hK hP hD hS 5 (by decide) (sX_5 hT) rfl 3 (by decide) (htg _ q_222) (fun _ h9 => h9) rfl (by decide +kernel) rfl rfl (Nat.le_of_ble_eq_true rfl) (hT.up 5 ⟨rfl, (fX_5_1 hT), (fX_5_2 hT), (fX_5_4 hT), (fX_5_5 hT)⟩) (fr_st hF (by decide) (by decide)) dX4_advance_205 (fun C_111 H locs e_112 hT hF hP hD hS => ?_)
                      have t_113 := hT
                      rw [hQ]
                      exact W.vret hx hb hr (fun t ht hW => ⟨⟨C_111, rfl, ⟨hT, hF, (Eq.trans (show gi (C_111 5) 2 = gi (K123 5) 2 by rw [e_112]; rfl) hv_123)⟩, ⟨by rw [ht]; exact hP, hD⟩⟩, hS.F ht⟩) hS.2.2 dX4_advance_208
                  · refine lv_aload_n hx hb dX4_advance_186 rfl (lv_at hl 0 rfl) ?_
                    refine lv_iconst (v := 2) hx hb dX4_advance_187 (by decide) ?_
                    refine th_put (Tp := TyX a E) (Rl := fr [(5, 6)] [] C) (ci := 4) (v := .int 2) (ty := .int) (CC := RX4) (T := TX4) (N := 6) hx hb htg ig_4 tyX4 tyX4_ok nmX4 hown hK hP hD hS 5 (by decide) (sX_5 hT) rfl 3 (by decide) (htg _ q_222) (fun _ h9 => h9) rfl (by decide +kernel) rfl rfl (Nat.le_of_ble_eq_true rfl) (hT.up 5 ⟨rfl, (fX_5_1 hT), (fX_5_2 hT), (fX_5_4 hT), (fX_5_5 hT)⟩) (fr_st hF (by decide) (by decide)) dX4_advance_188 (fun C_114 H locs e_115 hT hF hP hD hS => ?_)
                    have t_116 := hT
                    rw [hQ]
                    exact W.vret hx hb hr (fun t ht hW => ⟨⟨C_114, rfl, ⟨hT, hF, (Eq.trans (show gi (C_114 5) 2 = gi (K123 5) 2 by rw [e_115]; rfl) hv_123)⟩, ⟨by rw [ht]; exact hP, hD⟩⟩, hS.F ht⟩) hS.2.2 dX4_advance_191
                · refine lv_aload_n hx hb dX4_advance_134 rfl (lv_at hl 0 rfl) ?_
                  refine va_get (D := D) (ci := 4) (v := .ref (a 32)) (C := RX4) (T := TX4) (N := 6) hx hb htg ig_4 hown hK hP 5 (oh_wg (by decide) (sX_5 hT)) rfl 0 (by decide) (htg _ q_217) (fun _ h9 => h9) rfl dX4_advance_135 ?_
                  refine lv_aload_n hx hb dX4_advance_138 rfl (lv_at hl 0 rfl) ?_
                  refine va_get (D := D) (ci := 4) (v := .int (gi (K123 5) 5)) (C := RX4) (T := TX4) (N := 6) hx hb htg ig_4 hown hK hP 5 (oh_wg (by decide) (sX_5 hT)) rfl 5 (by decide) (htg _ q_224) (fun _ h9 => h9) rfl dX4_advance_139 ?_
                  have n_117 : vp_in (gi (K123 5) 5) 250 := (rg_in (rn_ltu (u' := 249) (Int32.not_le.mp c_94) (fX_5_5 t_93) (fX_5_1 t_93) (by decide)) (by decide))
                  refine th_iald hx hb hK hP 32 (by decide) (Eq.trans (Eq.trans (hLF_123.1 32 rfl (by decide)) (Eq.trans (hLF_54.1 32 rfl (by decide)) (Eq.trans (th_un e_7 (by decide)) (Eq.trans (hLF_8.1 32 rfl (by decide)) (th_un e_2 (by decide)))))) (sX_32 hT0)) n_117 dX4_advance_142 ?_
                  refine lv_bipush (v := 48) hx hb dX4_advance_143 (by decide) ?_
                  refine lv_icmp_lt (tgt := 175) hx hb dX4_advance_145 (by decide) (fun (c_118 : (ga (C 32) (gi (K123 5) 5).toNatClampNeg) < 48) => ?_) (fun (c_118 : ¬ ((ga (C 32) (gi (K123 5) 5).toNatClampNeg) < 48)) => ?_)
                  · refine lv_aload_n hx hb dX4_advance_175 rfl (lv_at hl 0 rfl) ?_
                    refine va_get (D := D) (ci := 4) (v := .int (gi (K123 5) 5)) (C := RX4) (T := TX4) (N := 6) hx hb htg ig_4 hown hK hP 5 (oh_wg (by decide) (sX_5 hT)) rfl 5 (by decide) (htg _ q_224) (fun _ h9 => h9) rfl dX4_advance_176 ?_
                    refine lv_aload_n hx hb dX4_advance_179 rfl (lv_at hl 0 rfl) ?_
                    refine va_get (D := D) (ci := 4) (v := .int (gi (K123 5) 4)) (C := RX4) (T := TX4) (N := 6) hx hb htg ig_4 hown hK hP 5 (oh_wg (by decide) (sX_5 hT)) rfl 4 (by decide) (htg _ q_223) (fun _ h9 => h9) rfl dX4_advance_180 ?_
                    refine lv_icmp_le (tgt := 192) hx hb dX4_advance_183 (by decide) (fun (c_119 : (gi (K123 5) 5) ≤ (gi (K123 5) 4)) => ?_) (fun (c_119 : ¬ ((gi (K123 5) 5) ≤ (gi (K123 5) 4))) => ?_)
                    · refine lv_aload_n hx hb dX4_advance_192 rfl (lv_at hl 0 rfl) ?_
                      refine va_get (D := D) (ci := 4) (v := .int (gi (K123 5) 4)) (C := RX4) (T := TX4) (N := 6) hx hb htg ig_4 hown hK hP 5 (oh_wg (by decide) (sX_5 hT)) rfl 4 (by decide) (htg _ q_223) (fun _ h9 => h9) rfl dX4_advance_193 ?_
                      refine lv_aload_n hx hb dX4_advance_196 rfl (lv_at hl 0 rfl) ?_
                      refine va_get (D := D) (ci := 4) (v := .int (gi (K123 5) 1)) (C := RX4) (T := TX4) (N := 6) hx hb htg ig_4 hown hK hP 5 (oh_wg (by decide) (sX_5 hT)) rfl 1 (by decide) (htg _ q_218) (fun _ h9 => h9) rfl dX4_advance_197 ?_
                      refine lv_icmp_lt (tgt := 209) hx hb dX4_advance_200 (by decide) (fun (c_120 : (gi (K123 5) 4) < (gi (K123 5) 1)) => ?_) (fun (c_120 : ¬ ((gi (K123 5) 4) < (gi (K123 5) 1))) => ?_)
                      · refine lv_aload_n hx hb dX4_advance_209 rfl (lv_at hl 0 rfl) ?_
                        refine lv_aload_n hx hb dX4_advance_210 rfl (lv_at hl 0 rfl) ?_
                        refine va_get (D := D) (ci := 4) (v := .ref (a 32)) (C := RX4) (T := TX4) (N := 6) hx hb htg ig_4 hown hK hP 5 (oh_wg (by decide) (sX_5 hT)) rfl 0 (by decide) (htg _ q_217) (fun _ h9 => h9) rfl dX4_advance_211 ?_
                        refine lv_aload_n hx hb dX4_advance_214 rfl (lv_at hl 0 rfl) ?_
                        refine va_get (D := D) (ci := 4) (v := .int (gi (K123 5) 4)) (C := RX4) (T := TX4) (N := 6) hx hb htg ig_4 hown hK hP 5 (oh_wg (by decide) (sX_5 hT)) rfl 4 (by decide) (htg _ q_223) (fun _ h9 => h9) rfl dX4_advance_215 ?_
                        have n_121 : vp_in (gi (K123 5) 4) 250 := (rg_in (rn_ltu (u' := 249) c_120 (fX_5_4 t_93) (rn_ltl (l' := 1) (Int32.not_le.mp c_94) (fX_5_5 t_93) (fX_5_1 t_93) (by decide)) (by decide)) (by decide))
                        refine th_iald hx hb hK hP 32 (by decide) (Eq.trans (Eq.trans (hLF_123.1 32 rfl (by decide)) (Eq.trans (hLF_54.1 32 rfl (by decide)) (Eq.trans (th_un e_7 (by decide)) (Eq.trans (hLF_8.1 32 rfl (by decide)) (th_un e_2 (by decide)))))) (sX_32 hT0)) n_121 dX4_advance_218 ?_
                        refine lv_bipush (v := 59) hx hb dX4_advance_219 (by decide) ?_
                        refine lv_icmp_ne (tgt := 228) hx hb dX4_advance_221 (by decide) (fun (c_122 : ¬ ((ga (C 32) (gi (K123 5) 4).toNatClampNeg) = 59)) => ?_) (fun (c_122 : (ga (C 32) (gi (K123 5) 4).toNatClampNeg) = 59) => ?_)
                        · refine lv_iconst (v := 4) hx hb dX4_advance_228 (by decide) ?_
                          refine th_put (Tp := TyX a E) (Rl := fr [(5, 6)] [] C) (ci := 4) (v := .int 4) (ty := .int) (CC := RX4) (T := TX4) (N := 6) hx hb htg ig_4 tyX4 tyX4_ok nmX4 hown hK hP hD hS 5 (by decide) (sX_5 hT) rfl 3 (by decide) (htg _ q_222) (fun _ h9 => h9) rfl (by decide +kernel) rfl rfl (Nat.le_of_ble_eq_true rfl) (hT.up 5 ⟨rfl, (fX_5_1 hT), (fX_5_2 hT), (fX_5_4 hT), (fX_5_5 hT)⟩) (fr_st hF (by decide) (by decide)) dX4_advance_229 (fun C_123 H locs e_124 hT hF hP hD hS => ?_)
                          have t_125 := hT
                          refine lv_aload_n hx hb dX4_advance_232 rfl (lv_at hl 0 rfl) ?_
                          refine lv_aload_n hx hb dX4_advance_233 rfl (lv_at hl 0 rfl) ?_
                          refine va_get (D := D) (ci := 4) (v := .int (gi (K123 5) 4)) (C := RX4) (T := TX4) (N := 6) hx hb htg ig_4 hown hK hP 5 (oh_wg (by decide) (sX_5 hT)) rfl 4 (by decide) (htg _ q_223) (fun _ h9 => h9) (oh_fv (c := C_123 5) (j := 4) rfl (show gi (C_123 5) 4 = gi (K123 5) 4 by rw [e_124]; rfl)) dX4_advance_234 ?_
                          refine lv_iconst (v := 1) hx hb dX4_advance_237 (by decide) ?_
                          refine lv_iadd hx hb dX4_advance_238 ?_
                          refine th_put (Tp := TyX a E) (Rl := fr [(5, 6)] [] C) (ci := 4) (v := .int ((gi (K123 5) 4) + 1)) (ty := .int) (CC := RX4) (T := TX4) (N := 6) hx hb htg ig_4 tyX4 tyX4_ok nmX4 hown hK hP hD hS 5 (by decide) (sX_5 hT) rfl 5 (by decide) (htg _ q_224) (fun _ h9 => h9) rfl (by decide +kernel) rfl rfl (Nat.le_of_ble_eq_true rfl) (hT.up 5 ⟨rfl, (fX_5_1 hT), (fX_5_2 hT), (fX_5_4 hT), (rg_w (rg_add (lo := 1) (hi := 250) (rn_ltu (u' := 249) c_120 (fX_5_4 t_93) (rn_ltl (l' := 1) (Int32.not_le.mp c_94) (fX_5_5 t_93) (fX_5_1 t_93) (by decide)) (by decide)) (rg_c (v := 1) (lo := 1) (hi := 1) (by decide)) (by decide)) (by decide))⟩) (fr_st hF (by decide) (by decide)) dX4_advance_239 (fun C_126 H locs e_127 hT hF hP hD hS => ?_)
                          have t_128 := hT
                          rw [hQ]
                          exact W.vret hx hb hr (fun t ht hW => ⟨⟨C_126, rfl, ⟨hT, hF, (Eq.trans (Eq.trans (show gi (C_126 5) 2 = gi (C_123 5) 2 by rw [e_127]; rfl) (show gi (C_123 5) 2 = gi (K123 5) 2 by rw [e_124]; rfl)) hv_123)⟩, ⟨by rw [ht]; exact hP, hD⟩⟩, hS.F ht⟩) hS.2.2 dX4_advance_242
                        · refine lv_iconst (v := 3) hx hb dX4_advance_224 (by decide) ?_
                          refine lv_goto (tgt := 229) hx hb dX4_advance_225 (by decide) ?_
                          refine th_put (Tp := TyX a E) (Rl := fr [(5, 6)] [] C) (ci := 4) (v := .int 3) (ty := .int) (CC := RX4) (T := TX4) (N := 6) hx hb htg ig_4 tyX4 tyX4_ok nmX4 hown hK hP hD hS 5 (by decide) (sX_5 hT) rfl 3 (by decide) (htg _ q_222) (fun _ h9 => h9) rfl (by decide +kernel) rfl rfl (Nat.le_of_ble_eq_true rfl) (hT.up 5 ⟨rfl, (fX_5_1 hT), (fX_5_2 hT), (fX_5_4 hT), (fX_5_5 hT)⟩) (fr_st hF (by decide) (by decide)) dX4_advance_229 (fun C_129 H locs e_130 hT hF hP hD hS => ?_)
                          have t_131 := hT
                          refine lv_aload_n hx hb dX4_advance_232 rfl (lv_at hl 0 rfl) ?_
                          refine lv_aload_n hx hb dX4_advance_233 rfl (lv_at hl 0 rfl) ?_
                          refine va_get (D := D) (ci := 4) (v := .int (gi (K123 5) 4)) (C := RX4) (T := TX4) (N := 6) hx hb htg ig_4 hown hK hP 5 (oh_wg (by decide) (sX_5 hT)) rfl 4 (by decide) (htg _ q_223) (fun _ h9 => h9) (oh_fv (c := C_129 5) (j := 4) rfl (show gi (C_129 5) 4 = gi (K123 5) 4 by rw [e_130]; rfl)) dX4_advance_234 ?_
                          refine lv_iconst (v := 1) hx hb dX4_advance_237 (by decide) ?_
                          refine lv_iadd hx hb dX4_advance_238 ?_
                          refine th_put (Tp := TyX a E) (Rl := fr [(5, 6)] [] C) (ci := 4) (v := .int ((gi (K123 5) 4) + 1)) (ty := .int) (CC := RX4) (T := TX4) (N := 6) hx hb htg ig_4 tyX4 tyX4_ok nmX4 hown hK hP hD hS 5 (by decide) (sX_5 hT) rfl 5 (by decide) (htg _ q_224) (fun _ h9 => h9) rfl (by decide +kernel) rfl rfl (Nat.le_of_ble_eq_true rfl) (hT.up 5 ⟨rfl, (fX_5_1 hT), (fX_5_2 hT), (fX_5_4 hT), (rg_w (rg_add (lo := 1) (hi := 250) (rn_ltu (u' := 249) c_120 (fX_5_4 t_93) (rn_ltl (l' := 1) (Int32.not_le.mp c_94) (fX_5_5 t_93) (fX_5_1 t_93) (by decide)) (by decide)) (rg_c (v := 1) (lo := 1) (hi := 1) (by decide)) (by decide)) (by decide))⟩) (fr_st hF (by decide) (by decide)) dX4_advance_239 (fun C_132 H locs e_133 hT hF hP hD hS => ?_)
                          have t_134 := hT
                          rw [hQ]
                          exact W.vret hx hb hr (fun t ht hW => ⟨⟨C_132, rfl, ⟨hT, hF, (Eq.trans (Eq.trans (show gi (C_132 5) 2 = gi (C_129 5) 2 by rw [e_133]; rfl) (show gi (C_129 5) 2 = gi (K123 5) 2 by rw [e_130]; rfl)) hv_123)⟩, ⟨by rw [ht]; exact hP, hD⟩⟩, hS.F ht⟩) hS.2.2 dX4_advance_242
                      · refine lv_aload_n hx hb dX4_advance_203 rfl (lv_at hl 0 rfl) ?_
                        refine lv_iconst (v := 0) hx hb dX4_advance_204 (by decide) ?_
                        refine th_put (Tp := TyX a E) (Rl := fr [(5, 6)] [] C) (ci := 4) (v := .int 0) (ty := .int) (CC := RX4) (T := TX4) (N := 6) hx hb htg ig_4 tyX4 tyX4_ok nmX4 hown hK hP hD hS 5 (by decide) (sX_5 hT) rfl 3 (by decide) (htg _ q_222) (fun _ h9 => h9) rfl (by decide +kernel) rfl rfl (Nat.le_of_ble_eq_true rfl) (hT.up 5 ⟨rfl, (fX_5_1 hT), (fX_5_2 hT), (fX_5_4 hT), (fX_5_5 hT)⟩) (fr_st hF (by decide) (by decide)) dX4_advance_205 (fun C_135 H locs e_136 hT hF hP hD hS => ?_)
                        have t_137 := hT
                        rw [hQ]
                        exact W.vret hx hb hr (fun t ht hW => ⟨⟨C_135, rfl, ⟨hT, hF, (Eq.trans (show gi (C_135 5) 2 = gi (K123 5) 2 by rw [e_136]; rfl) hv_123)⟩, ⟨by rw [ht]; exact hP, hD⟩⟩, hS.F ht⟩) hS.2.2 dX4_advance_208
                    · refine lv_aload_n hx hb dX4_advance_186 rfl (lv_at hl 0 rfl) ?_
                      refine lv_iconst (v := 2) hx hb dX4_advance_187 (by decide) ?_
                      refine th_put (Tp := TyX a E) (Rl := fr [(5, 6)] [] C) (ci := 4) (v := .int 2) (ty := .int) (CC := RX4) (T := TX4) (N := 6) hx hb htg ig_4 tyX4 tyX4_ok nmX4 hown hK hP hD hS 5 (by decide) (sX_5 hT) rfl 3 (by decide) (htg _ q_222) (fun _ h9 => h9) rfl (by decide +kernel) rfl rfl (Nat.le_of_ble_eq_true rfl) (hT.up 5 ⟨rfl, (fX_5_1 hT), (fX_5_2 hT), (fX_5_4 hT), (fX_5_5 hT)⟩) (fr_st hF (by decide) (by decide)) dX4_advance_188 (fun C_138 H locs e_139 hT hF hP hD hS => ?_)
                      have t_140 := hT
                      rw [hQ]
                      exact W.vret hx hb hr (fun t ht hW => ⟨⟨C_138, rfl, ⟨hT, hF, (Eq.trans (show gi (C_138 5) 2 = gi (K123 5) 2 by rw [e_139]; rfl) hv_123)⟩, ⟨by rw [ht]; exact hP, hD⟩⟩, hS.F ht⟩) hS.2.2 dX4_advance_191
                  · refine lv_aload_n hx hb dX4_advance_148 rfl (lv_at hl 0 rfl) ?_
                    refine va_get (D := D) (ci := 4) (v := .ref (a 32)) (C := RX4) (T := TX4) (N := 6) hx hb htg ig_4 hown hK hP 5 (oh_wg (by decide) (sX_5 hT)) rfl 0 (by decide) (htg _ q_217) (fun _ h9 => h9) rfl dX4_advance_149 ?_
                    refine lv_aload_n hx hb dX4_advance_152 rfl (lv_at hl 0 rfl) ?_
                    refine va_get (D := D) (ci := 4) (v := .int (gi (K123 5) 5)) (C := RX4) (T := TX4) (N := 6) hx hb htg ig_4 hown hK hP 5 (oh_wg (by decide) (sX_5 hT)) rfl 5 (by decide) (htg _ q_224) (fun _ h9 => h9) rfl dX4_advance_153 ?_
                    have n_141 : vp_in (gi (K123 5) 5) 250 := (rg_in (rn_ltu (u' := 249) (Int32.not_le.mp c_94) (fX_5_5 t_93) (fX_5_1 t_93) (by decide)) (by decide))
                    refine th_iald hx hb hK hP 32 (by decide) (Eq.trans (Eq.trans (hLF_123.1 32 rfl (by decide)) (Eq.trans (hLF_54.1 32 rfl (by decide)) (Eq.trans (th_un e_7 (by decide)) (Eq.trans (hLF_8.1 32 rfl (by decide)) (th_un e_2 (by decide)))))) (sX_32 hT0)) n_141 dX4_advance_156 ?_
                    refine lv_bipush (v := 57) hx hb dX4_advance_157 (by decide) ?_
                    refine lv_icmp_gt (tgt := 175) hx hb dX4_advance_159 (by decide) (fun (c_142 : (57 : Int32) < (ga (C 32) (gi (K123 5) 5).toNatClampNeg)) => ?_) (fun (c_142 : ¬ ((57 : Int32) < (ga (C 32) (gi (K123 5) 5).toNatClampNeg))) => ?_)
                    · refine lv_aload_n hx hb dX4_advance_175 rfl (lv_at hl 0 rfl) ?_
                      refine va_get (D := D) (ci := 4) (v := .int (gi (K123 5) 5)) (C := RX4) (T := TX4) (N := 6) hx hb htg ig_4 hown hK hP 5 (oh_wg (by decide) (sX_5 hT)) rfl 5 (by decide) (htg _ q_224) (fun _ h9 => h9) rfl dX4_advance_176 ?_
                      refine lv_aload_n hx hb dX4_advance_179 rfl (lv_at hl 0 rfl) ?_
                      refine va_get (D := D) (ci := 4) (v := .int (gi (K123 5) 4)) (C := RX4) (T := TX4) (N := 6) hx hb htg ig_4 hown hK hP 5 (oh_wg (by decide) (sX_5 hT)) rfl 4 (by decide) (htg _ q_223) (fun _ h9 => h9) rfl dX4_advance_180 ?_
                      refine lv_icmp_le (tgt := 192) hx hb dX4_advance_183 (by decide) (fun (c_143 : (gi (K123 5) 5) ≤ (gi (K123 5) 4)) => ?_) (fun (c_143 : ¬ ((gi (K123 5) 5) ≤ (gi (K123 5) 4))) => ?_)
                      · refine lv_aload_n hx hb dX4_advance_192 rfl (lv_at hl 0 rfl) ?_
                        refine va_get (D := D) (ci := 4) (v := .int (gi (K123 5) 4)) (C := RX4) (T := TX4) (N := 6) hx hb htg ig_4 hown hK hP 5 (oh_wg (by decide) (sX_5 hT)) rfl 4 (by decide) (htg _ q_223) (fun _ h9 => h9) rfl dX4_advance_193 ?_
                        refine lv_aload_n hx hb dX4_advance_196 rfl (lv_at hl 0 rfl) ?_
                        refine va_get (D := D) (ci := 4) (v := .int (gi (K123 5) 1)) (C := RX4) (T := TX4) (N := 6) hx hb htg ig_4 hown hK hP 5 (oh_wg (by decide) (sX_5 hT)) rfl 1 (by decide) (htg _ q_218) (fun _ h9 => h9) rfl dX4_advance_197 ?_
                        refine lv_icmp_lt (tgt := 209) hx hb dX4_advance_200 (by decide) (fun (c_144 : (gi (K123 5) 4) < (gi (K123 5) 1)) => ?_) (fun (c_144 : ¬ ((gi (K123 5) 4) < (gi (K123 5) 1))) => ?_)
                        · refine lv_aload_n hx hb dX4_advance_209 rfl (lv_at hl 0 rfl) ?_
                          refine lv_aload_n hx hb dX4_advance_210 rfl (lv_at hl 0 rfl) ?_
                          refine va_get (D := D) (ci := 4) (v := .ref (a 32)) (C := RX4) (T := TX4) (N := 6) hx hb htg ig_4 hown hK hP 5 (oh_wg (by decide) (sX_5 hT)) rfl 0 (by decide) (htg _ q_217) (fun _ h9 => h9) rfl dX4_advance_211 ?_
                          refine lv_aload_n hx hb dX4_advance_214 rfl (lv_at hl 0 rfl) ?_
                          refine va_get (D := D) (ci := 4) (v := .int (gi (K123 5) 4)) (C := RX4) (T := TX4) (N := 6) hx hb htg ig_4 hown hK hP 5 (oh_wg (by decide) (sX_5 hT)) rfl 4 (by decide) (htg _ q_223) (fun _ h9 => h9) rfl dX4_advance_215 ?_
                          have n_145 : vp_in (gi (K123 5) 4) 250 := (rg_in (rn_ltu (u' := 249) c_144 (fX_5_4 t_93) (rn_ltl (l' := 1) (Int32.not_le.mp c_94) (fX_5_5 t_93) (fX_5_1 t_93) (by decide)) (by decide)) (by decide))
                          refine th_iald hx hb hK hP 32 (by decide) (Eq.trans (Eq.trans (hLF_123.1 32 rfl (by decide)) (Eq.trans (hLF_54.1 32 rfl (by decide)) (Eq.trans (th_un e_7 (by decide)) (Eq.trans (hLF_8.1 32 rfl (by decide)) (th_un e_2 (by decide)))))) (sX_32 hT0)) n_145 dX4_advance_218 ?_
                          refine lv_bipush (v := 59) hx hb dX4_advance_219 (by decide) ?_
                          refine lv_icmp_ne (tgt := 228) hx hb dX4_advance_221 (by decide) (fun (c_146 : ¬ ((ga (C 32) (gi (K123 5) 4).toNatClampNeg) = 59)) => ?_) (fun (c_146 : (ga (C 32) (gi (K123 5) 4).toNatClampNeg) = 59) => ?_)
                          · refine lv_iconst (v := 4) hx hb dX4_advance_228 (by decide) ?_
                            refine th_put (Tp := TyX a E) (Rl := fr [(5, 6)] [] C) (ci := 4) (v := .int 4) (ty := .int) (CC := RX4) (T := TX4) (N := 6) hx hb htg ig_4 tyX4 tyX4_ok nmX4 hown hK hP hD hS 5 (by decide) (sX_5 hT) rfl 3 (by decide) (htg _ q_222) (fun _ h9 => h9) rfl (by decide +kernel) rfl rfl (Nat.le_of_ble_eq_true rfl) (hT.up 5 ⟨rfl, (fX_5_1 hT), (fX_5_2 hT), (fX_5_4 hT), (fX_5_5 hT)⟩) (fr_st hF (by decide) (by decide)) dX4_advance_229 (fun C_147 H locs e_148 hT hF hP hD hS => ?_)
                            have t_149 := hT
                            refine lv_aload_n hx hb dX4_advance_232 rfl (lv_at hl 0 rfl) ?_
                            refine lv_aload_n hx hb dX4_advance_233 rfl (lv_at hl 0 rfl) ?_
                            refine va_get (D := D) (ci := 4) (v := .int (gi (K123 5) 4)) (C := RX4) (T := TX4) (N := 6) hx hb htg ig_4 hown hK hP 5 (oh_wg (by decide) (sX_5 hT)) rfl 4 (by decide) (htg _ q_223) (fun _ h9 => h9) (oh_fv (c := C_147 5) (j := 4) rfl (show gi (C_147 5) 4 = gi (K123 5) 4 by rw [e_148]; rfl)) dX4_advance_234 ?_
                            refine lv_iconst (v := 1) hx hb dX4_advance_237 (by decide) ?_
                            refine lv_iadd hx hb dX4_advance_238 ?_
                            refine th_put (Tp := TyX a E) (Rl := fr [(5, 6)] [] C) (ci := 4) (v := .int ((gi (K123 5) 4) + 1)) (ty := .int) (CC := RX4) (T := TX4) (N := 6) hx hb htg ig_4 tyX4 tyX4_ok nmX4 hown hK hP hD hS 5 (by decide) (sX_5 hT) rfl 5 (by decide) (htg _ q_224) (fun _ h9 => h9) rfl (by decide +kernel) rfl rfl (Nat.le_of_ble_eq_true rfl) (hT.up 5 ⟨rfl, (fX_5_1 hT), (fX_5_2 hT), (fX_5_4 hT), (rg_w (rg_add (lo := 1) (hi := 250) (rn_ltu (u' := 249) c_144 (fX_5_4 t_93) (rn_ltl (l' := 1) (Int32.not_le.mp c_94) (fX_5_5 t_93) (fX_5_1 t_93) (by decide)) (by decide)) (rg_c (v := 1) (lo := 1) (hi := 1) (by decide)) (by decide)) (by decide))⟩) (fr_st hF (by decide) (by decide)) dX4_advance_239 (fun C_150 H locs e_151 hT hF hP hD hS => ?_)
                            have t_152 := hT
                            rw [hQ]
                            exact W.vret hx hb hr (fun t ht hW => ⟨⟨C_150, rfl, ⟨hT, hF, (Eq.trans (Eq.trans (show gi (C_150 5) 2 = gi (C_147 5) 2 by rw [e_151]; rfl) (show gi (C_147 5) 2 = gi (K123 5) 2 by rw [e_148]; rfl)) hv_123)⟩, ⟨by rw [ht]; exact hP, hD⟩⟩, hS.F ht⟩) hS.2.2 dX4_advance_242
                          · refine lv_iconst (v := 3) hx hb dX4_advance_224 (by decide) ?_
                            refine lv_goto (tgt := 229) hx hb dX4_advance_225 (by decide) ?_
                            refine th_put (Tp := TyX a E) (Rl := fr [(5, 6)] [] C) (ci := 4) (v := .int 3) (ty := .int) (CC := RX4) (T := TX4) (N := 6) hx hb htg ig_4 tyX4 tyX4_ok nmX4 hown hK hP hD hS 5 (by decide) (sX_5 hT) rfl 3 (by decide) (htg _ q_222) (fun _ h9 => h9) rfl (by decide +kernel) rfl rfl (Nat.le_of_ble_eq_true rfl) (hT.up 5 ⟨rfl, (fX_5_1 hT), (fX_5_2 hT), (fX_5_4 hT), (fX_5_5 hT)⟩) (fr_st hF (by decide) (by decide)) dX4_advance_229 (fun C_153 H locs e_154 hT hF hP hD hS => ?_)
                            have t_155 := hT
                            refine lv_aload_n hx hb dX4_advance_232 rfl (lv_at hl 0 rfl) ?_
                            refine lv_aload_n hx hb dX4_advance_233 rfl (lv_at hl 0 rfl) ?_
                            refine va_get (D := D) (ci := 4) (v := .int (gi (K123 5) 4)) (C := RX4) (T := TX4) (N := 6) hx hb htg ig_4 hown hK hP 5 (oh_wg (by decide) (sX_5 hT)) rfl 4 (by decide) (htg _ q_223) (fun _ h9 => h9) (oh_fv (c := C_153 5) (j := 4) rfl (show gi (C_153 5) 4 = gi (K123 5) 4 by rw [e_154]; rfl)) dX4_advance_234 ?_
                            refine lv_iconst (v := 1) hx hb dX4_advance_237 (by decide) ?_
                            refine lv_iadd hx hb dX4_advance_238 ?_
                            refine th_put (Tp := TyX a E) (Rl := fr [(5, 6)] [] C) (ci := 4) (v := .int ((gi (K123 5) 4) + 1)) (ty := .int) (CC := RX4) (T := TX4) (N := 6) hx hb htg ig_4 tyX4 tyX4_ok nmX4 hown hK hP hD hS 5 (by decide) (sX_5 hT) rfl 5 (by decide) (htg _ q_224) (fun _ h9 => h9) rfl (by decide +kernel) rfl rfl (Nat.le_of_ble_eq_true rfl) (hT.up 5 ⟨rfl, (fX_5_1 hT), (fX_5_2 hT), (fX_5_4 hT), (rg_w (rg_add (lo := 1) (hi := 250) (rn_ltu (u' := 249) c_144 (fX_5_4 t_93) (rn_ltl (l' := 1) (Int32.not_le.mp c_94) (fX_5_5 t_93) (fX_5_1 t_93) (by decide)) (by decide)) (rg_c (v := 1) (lo := 1) (hi := 1) (by decide)) (by decide)) (by decide))⟩) (fr_st hF (by decide) (by decide)) dX4_advance_239 (fun C_156 H locs e_157 hT hF hP hD hS => ?_)
                            have t_158 := hT
                            rw [hQ]
                            exact W.vret hx hb hr (fun t ht hW => ⟨⟨C_156, rfl, ⟨hT, hF, (Eq.trans (Eq.trans (show gi (C_156 5) 2 = gi (C_153 5) 2 by rw [e_157]; rfl) (show gi (C_153 5) 2 = gi (K123 5) 2 by rw [e_154]; rfl)) hv_123)⟩, ⟨by rw [ht]; exact hP, hD⟩⟩, hS.F ht⟩) hS.2.2 dX4_advance_242
                        · refine lv_aload_n hx hb dX4_advance_203 rfl (lv_at hl 0 rfl) ?_
                          refine lv_iconst (v := 0) hx hb dX4_advance_204 (by decide) ?_
                          refine th_put (Tp := TyX a E) (Rl := fr [(5, 6)] [] C) (ci := 4) (v := .int 0) (ty := .int) (CC := RX4) (T := TX4) (N := 6) hx hb htg ig_4 tyX4 tyX4_ok nmX4 hown hK hP hD hS 5 (by decide) (sX_5 hT) rfl 3 (by decide) (htg _ q_222) (fun _ h9 => h9) rfl (by decide +kernel) rfl rfl (Nat.le_of_ble_eq_true rfl) (hT.up 5 ⟨rfl, (fX_5_1 hT), (fX_5_2 hT), (fX_5_4 hT), (fX_5_5 hT)⟩) (fr_st hF (by decide) (by decide)) dX4_advance_205 (fun C_159 H locs e_160 hT hF hP hD hS => ?_)
                          have t_161 := hT
                          rw [hQ]
                          exact W.vret hx hb hr (fun t ht hW => ⟨⟨C_159, rfl, ⟨hT, hF, (Eq.trans (show gi (C_159 5) 2 = gi (K123 5) 2 by rw [e_160]; rfl) hv_123)⟩, ⟨by rw [ht]; exact hP, hD⟩⟩, hS.F ht⟩) hS.2.2 dX4_advance_208
                      · refine lv_aload_n hx hb dX4_advance_186 rfl (lv_at hl 0 rfl) ?_
                        refine lv_iconst (v := 2) hx hb dX4_advance_187 (by decide) ?_
                        refine th_put (Tp := TyX a E) (Rl := fr [(5, 6)] [] C) (ci := 4) (v := .int 2) (ty := .int) (CC := RX4) (T := TX4) (N := 6) hx hb htg ig_4 tyX4 tyX4_ok nmX4 hown hK hP hD hS 5 (by decide) (sX_5 hT) rfl 3 (by decide) (htg _ q_222) (fun _ h9 => h9) rfl (by decide +kernel) rfl rfl (Nat.le_of_ble_eq_true rfl) (hT.up 5 ⟨rfl, (fX_5_1 hT), (fX_5_2 hT), (fX_5_4 hT), (fX_5_5 hT)⟩) (fr_st hF (by decide) (by decide)) dX4_advance_188 (fun C_162 H locs e_163 hT hF hP hD hS => ?_)
                        have t_164 := hT
                        rw [hQ]
                        exact W.vret hx hb hr (fun t ht hW => ⟨⟨C_162, rfl, ⟨hT, hF, (Eq.trans (show gi (C_162 5) 2 = gi (K123 5) 2 by rw [e_163]; rfl) hv_123)⟩, ⟨by rw [ht]; exact hP, hD⟩⟩, hS.F ht⟩) hS.2.2 dX4_advance_191
                    · refine lv_aload_n hx hb dX4_advance_162 rfl (lv_at hl 0 rfl) ?_
                      refine lv_dup hx hb dX4_advance_163 rfl ?_
                      refine va_get (D := D) (ci := 4) (v := .int (gi (K123 5) 5)) (C := RX4) (T := TX4) (N := 6) hx hb htg ig_4 hown hK hP 5 (oh_wg (by decide) (sX_5 hT)) rfl 5 (by decide) (htg _ q_224) (fun _ h9 => h9) rfl dX4_advance_164 ?_
                      refine lv_iconst (v := 1) hx hb dX4_advance_167 (by decide) ?_
                      refine lv_iadd hx hb dX4_advance_168 ?_
                      refine th_put (Tp := TyX a E) (Rl := fr [(5, 6)] [] C) (ci := 4) (v := .int ((gi (K123 5) 5) + 1)) (ty := .int) (CC := RX4) (T := TX4) (N := 6) hx hb htg ig_4 tyX4 tyX4_ok nmX4 hown hK hP hD hS 5 (by decide) (sX_5 hT) rfl 5 (by decide) (htg _ q_224) (fun _ h9 => h9) rfl (by decide +kernel) rfl rfl (Nat.le_of_ble_eq_true rfl) (hT.up 5 ⟨rfl, (fX_5_1 hT), (fX_5_2 hT), (fX_5_4 hT), (rg_w (rg_add (lo := 1) (hi := 250) (rn_ltu (u' := 249) (Int32.not_le.mp c_94) (fX_5_5 t_93) (fX_5_1 t_93) (by decide)) (rg_c (v := 1) (lo := 1) (hi := 1) (by decide)) (by decide)) (by decide))⟩) (fr_st hF (by decide) (by decide)) dX4_advance_169 (fun C_165 H locs e_166 hT hF hP hD hS => ?_)
                      have t_167 := hT
                      refine lv_goto (tgt := 123) hx hb dX4_advance_172 (by decide) ?_
                      exact ih_123 _ (hd_123 ▸ (by rw [(show gi (C_165 5) 5 = ((gi (K123 5) 5) + 1) by rw [e_166]; rfl)]; exact mu_up 250 (rn_ltu (u' := 249) (Int32.not_le.mp c_94) (fX_5_5 t_93) (fX_5_1 t_93) (by decide)) (by decide))) C_165  _ _ ls rfl (Eq.trans (show gi (C_165 5) 2 = gi (K123 5) 2 by rw [e_166]; rfl) hv_123) hT hF (fr_ste hLF_123 e_166 (by decide) (by decide)) hP hD hS (lv_sub hl [0] rfl)
              exact L_123 _ K54  _ _ ls rfl (Eq.trans rfl hv_54) hT hF fr_rf hP hD hS (lv_sub hl [0] rfl)
            · refine lv_aload_n hx hb dX4_advance_117 rfl (lv_at hl 0 rfl) ?_
              refine lv_iconst (v := 1) hx hb dX4_advance_118 (by decide) ?_
              refine th_put (Tp := TyX a E) (Rl := fr [(5, 6)] [] C) (ci := 4) (v := .int 1) (ty := .int) (CC := RX4) (T := TX4) (N := 6) hx hb htg ig_4 tyX4 tyX4_ok nmX4 hown hK hP hD hS 5 (by decide) (sX_5 hT) rfl 3 (by decide) (htg _ q_222) (fun _ h9 => h9) rfl (by decide +kernel) rfl rfl (Nat.le_of_ble_eq_true rfl) (hT.up 5 ⟨rfl, (fX_5_1 hT), (fX_5_2 hT), (fX_5_4 hT), (fX_5_5 hT)⟩) (fr_st hF (by decide) (by decide)) dX4_advance_119 (fun C_168 H locs e_169 hT hF hP hD hS => ?_)
              have t_170 := hT
              rw [hQ]
              exact W.vret hx hb hr (fun t ht hW => ⟨⟨C_168, rfl, ⟨hT, hF, (Eq.trans (show gi (C_168 5) 2 = gi (K54 5) 2 by rw [e_169]; rfl) hv_54)⟩, ⟨by rw [ht]; exact hP, hD⟩⟩, hS.F ht⟩) hS.2.2 dX4_advance_122
          · refine lv_aload_n hx hb dX4_advance_79 rfl (lv_at hl 0 rfl) ?_
            refine va_get (D := D) (ci := 4) (v := .ref (a 32)) (C := RX4) (T := TX4) (N := 6) hx hb htg ig_4 hown hK hP 5 (oh_wg (by decide) (sX_5 hT)) rfl 0 (by decide) (htg _ q_217) (fun _ h9 => h9) rfl dX4_advance_80 ?_
            refine lv_aload_n hx hb dX4_advance_83 rfl (lv_at hl 0 rfl) ?_
            refine va_get (D := D) (ci := 4) (v := .int (gi (K54 5) 5)) (C := RX4) (T := TX4) (N := 6) hx hb htg ig_4 hown hK hP 5 (oh_wg (by decide) (sX_5 hT)) rfl 5 (by decide) (htg _ q_224) (fun _ h9 => h9) rfl dX4_advance_84 ?_
            have n_171 : vp_in (gi (K54 5) 5) 250 := (rg_in (rn_ltu (u' := 249) (Int32.not_le.mp c_10) (fX_5_5 t_9) (fX_5_1 t_9) (by decide)) (by decide))
            refine th_iald hx hb hK hP 32 (by decide) (Eq.trans (Eq.trans (hLF_54.1 32 rfl (by decide)) (Eq.trans (th_un e_7 (by decide)) (Eq.trans (hLF_8.1 32 rfl (by decide)) (th_un e_2 (by decide))))) (sX_32 hT0)) n_171 dX4_advance_87 ?_
            refine lv_bipush (v := 122) hx hb dX4_advance_88 (by decide) ?_
            refine lv_icmp_gt (tgt := 106) hx hb dX4_advance_90 (by decide) (fun (c_172 : (122 : Int32) < (ga (C 32) (gi (K54 5) 5).toNatClampNeg)) => ?_) (fun (c_172 : ¬ ((122 : Int32) < (ga (C 32) (gi (K54 5) 5).toNatClampNeg))) => ?_)
            · refine lv_aload_n hx hb dX4_advance_106 rfl (lv_at hl 0 rfl) ?_
              refine va_get (D := D) (ci := 4) (v := .int (gi (K54 5) 5)) (C := RX4) (T := TX4) (N := 6) hx hb htg ig_4 hown hK hP 5 (oh_wg (by decide) (sX_5 hT)) rfl 5 (by decide) (htg _ q_224) (fun _ h9 => h9) rfl dX4_advance_107 ?_
              refine lv_aload_n hx hb dX4_advance_110 rfl (lv_at hl 0 rfl) ?_
              refine va_get (D := D) (ci := 4) (v := .int (gi (K54 5) 4)) (C := RX4) (T := TX4) (N := 6) hx hb htg ig_4 hown hK hP 5 (oh_wg (by decide) (sX_5 hT)) rfl 4 (by decide) (htg _ q_223) (fun _ h9 => h9) rfl dX4_advance_111 ?_
              refine lv_icmp_le (tgt := 123) hx hb dX4_advance_114 (by decide) (fun (c_173 : (gi (K54 5) 5) ≤ (gi (K54 5) 4)) => ?_) (fun (c_173 : ¬ ((gi (K54 5) 5) ≤ (gi (K54 5) 4))) => ?_)
              · have L_123 : ∀ (d : Nat) (K123 : Nat → va_E) (H : Heap) (locs : List Loc) (ls : Array Slot), (250 - (gi (K123 5) 5).toInt).toNat = d → (gi (K123 5) 2 = gi (C 5) 2) → TyX a E K123 → fr [(5, 6)] [] C K123 → fr [(5, 6)] [] K54 K123 → va_P D vwCl (oh_W 35 a K123) H → va_D A (oh_W 35 a K123) → va_S A s.heap H locs → lv_has ls 1 [(0, .ref (a 5))] → W p l e ({ frames := 0, cells := 0, slots := 0, locals := 0 }) s m (([.ref (a 5)] : List Value).toArray) below meth c H locs 0 0 Q (F0 m 123 ls []) := by
                  intro d
                  induction d using Nat.strongRecOn with
                  | ind d ih_123 =>
                  intro K123  H locs ls hd_123 hv_123 hT hF hLF_123 hP hD hS hl
                  have t_174 := hT
                  refine lv_aload_n hx hb dX4_advance_123 rfl (lv_at hl 0 rfl) ?_
                  refine va_get (D := D) (ci := 4) (v := .int (gi (K123 5) 5)) (C := RX4) (T := TX4) (N := 6) hx hb htg ig_4 hown hK hP 5 (oh_wg (by decide) (sX_5 hT)) rfl 5 (by decide) (htg _ q_224) (fun _ h9 => h9) rfl dX4_advance_124 ?_
                  refine lv_aload_n hx hb dX4_advance_127 rfl (lv_at hl 0 rfl) ?_
                  refine va_get (D := D) (ci := 4) (v := .int (gi (K123 5) 1)) (C := RX4) (T := TX4) (N := 6) hx hb htg ig_4 hown hK hP 5 (oh_wg (by decide) (sX_5 hT)) rfl 1 (by decide) (htg _ q_218) (fun _ h9 => h9) rfl dX4_advance_128 ?_
                  refine lv_icmp_ge (tgt := 175) hx hb dX4_advance_131 (by decide) (fun (c_175 : (gi (K123 5) 1) ≤ (gi (K123 5) 5)) => ?_) (fun (c_175 : ¬ ((gi (K123 5) 1) ≤ (gi (K123 5) 5))) => ?_)
                  · refine lv_aload_n hx hb dX4_advance_175 rfl (lv_at hl 0 rfl) ?_
                    refine va_get (D := D) (ci := 4) (v := .int (gi (K123 5) 5)) (C := RX4) (T := TX4) (N := 6) hx hb htg ig_4 hown hK hP 5 (oh_wg (by decide) (sX_5 hT)) rfl 5 (by decide) (htg _ q_224) (fun _ h9 => h9) rfl dX4_advance_176 ?_
                    refine lv_aload_n hx hb dX4_advance_179 rfl (lv_at hl 0 rfl) ?_
                    refine va_get (D := D) (ci := 4) (v := .int (gi (K123 5) 4)) (C := RX4) (T := TX4) (N := 6) hx hb htg ig_4 hown hK hP 5 (oh_wg (by decide) (sX_5 hT)) rfl 4 (by decide) (htg _ q_223) (fun _ h9 => h9) rfl dX4_advance_180 ?_
                    refine lv_icmp_le (tgt := 192) hx hb dX4_advance_183 (by decide) (fun (c_176 : (gi (K123 5) 5) ≤ (gi (K123 5) 4)) => ?_) (fun (c_176 : ¬ ((gi (K123 5) 5) ≤ (gi (K123 5) 4))) => ?_)
                    · refine lv_aload_n hx hb dX4_advance_192 rfl (lv_at hl 0 rfl) ?_
                      refine va_get (D := D) (ci := 4) (v := .int (gi (K123 5) 4)) (C := RX4) (T := TX4) (N := 6) hx hb htg ig_4 hown hK hP 5 (oh_wg (by decide) (sX_5 hT)) rfl 4 (by decide) (htg _ q_223) (fun _ h9 => h9) rfl dX4_advance_193 ?_
                      refine lv_aload_n hx hb dX4_advance_196 rfl (lv_at hl 0 rfl) ?_
                      refine va_get (D := D) (ci := 4) (v := .int (gi (K123 5) 1)) (C := RX4) (T := TX4) (N := 6) hx hb htg ig_4 hown hK hP 5 (oh_wg (by decide) (sX_5 hT)) rfl 1 (by decide) (htg _ q_218) (fun _ h9 => h9) rfl dX4_advance_197 ?_
                      refine lv_icmp_lt (tgt := 209) hx hb dX4_advance_200 (by decide) (fun (c_177 : (gi (K123 5) 4) < (gi (K123 5) 1)) => ?_) (fun (c_177 : ¬ ((gi (K123 5) 4) < (gi (K123 5) 1))) => ?_)
                      · refine lv_aload_n hx hb dX4_advance_209 rfl (lv_at hl 0 rfl) ?_
                        refine lv_aload_n hx hb dX4_advance_210 rfl (lv_at hl 0 rfl) ?_
                        refine va_get (D := D) (ci := 4) (v := .ref (a 32)) (C := RX4) (T := TX4) (N := 6) hx hb htg ig_4 hown hK hP 5 (oh_wg (by decide) (sX_5 hT)) rfl 0 (by decide) (htg _ q_217) (fun _ h9 => h9) rfl dX4_advance_211 ?_
                        refine lv_aload_n hx hb dX4_advance_214 rfl (lv_at hl 0 rfl) ?_
                        refine va_get (D := D) (ci := 4) (v := .int (gi (K123 5) 4)) (C := RX4) (T := TX4) (N := 6) hx hb htg ig_4 hown hK hP 5 (oh_wg (by decide) (sX_5 hT)) rfl 4 (by decide) (htg _ q_223) (fun _ h9 => h9) rfl dX4_advance_215 ?_
                        have n_178 : vp_in (gi (K123 5) 4) 250 := (rg_in (rn_ltu (u' := 249) c_177 (rn_lel c_176 (rn_lel c_175 (rn_ltl (l' := 1) c_177 (fX_5_4 t_174) (fX_5_1 t_174) (by decide)) (fX_5_5 t_174)) (fX_5_4 t_174)) (fX_5_1 t_174) (by decide)) (by decide))
                        refine th_iald hx hb hK hP 32 (by decide) (Eq.trans (Eq.trans (hLF_123.1 32 rfl (by decide)) (Eq.trans (hLF_54.1 32 rfl (by decide)) (Eq.trans (th_un e_7 (by decide)) (Eq.trans (hLF_8.1 32 rfl (by decide)) (th_un e_2 (by decide)))))) (sX_32 hT0)) n_178 dX4_advance_218 ?_
                        refine lv_bipush (v := 59) hx hb dX4_advance_219 (by decide) ?_
                        refine lv_icmp_ne (tgt := 228) hx hb dX4_advance_221 (by decide) (fun (c_179 : ¬ ((ga (C 32) (gi (K123 5) 4).toNatClampNeg) = 59)) => ?_) (fun (c_179 : (ga (C 32) (gi (K123 5) 4).toNatClampNeg) = 59) => ?_)
                        · refine lv_iconst (v := 4) hx hb dX4_advance_228 (by decide) ?_
                          refine th_put (Tp := TyX a E) (Rl := fr [(5, 6)] [] C) (ci := 4) (v := .int 4) (ty := .int) (CC := RX4) (T := TX4) (N := 6) hx hb htg ig_4 tyX4 tyX4_ok nmX4 hown hK hP hD hS 5 (by decide) (sX_5 hT) rfl 3 (by decide) (htg _ q_222) (fun _ h9 => h9) rfl (by decide +kernel) rfl rfl (Nat.le_of_ble_eq_true rfl) (hT.up 5 ⟨rfl, (fX_5_1 hT), (fX_5_2 hT), (fX_5_4 hT), (fX_5_5 hT)⟩) (fr_st hF (by decide) (by decide)) dX4_advance_229 (fun C_180 H locs e_181 hT hF hP hD hS => ?_)
                          have t_182 := hT
                          refine lv_aload_n hx hb dX4_advance_232 rfl (lv_at hl 0 rfl) ?_
                          refine lv_aload_n hx hb dX4_advance_233 rfl (lv_at hl 0 rfl) ?_
                          refine va_get (D := D) (ci := 4) (v := .int (gi (K123 5) 4)) (C := RX4) (T := TX4) (N := 6) hx hb htg ig_4 hown hK hP 5 (oh_wg (by decide) (sX_5 hT)) rfl 4 (by decide) (htg _ q_223) (fun _ h9 => h9) (oh_fv (c := C_180 5) (j := 4) rfl (show gi (C_180 5) 4 = gi (K123 5) 4 by rw [e_181]; rfl)) dX4_advance_234 ?_
                          refine lv_iconst (v := 1) hx hb dX4_advance_237 (by decide) ?_
                          refine lv_iadd hx hb dX4_advance_238 ?_
                          refine th_put (Tp := TyX a E) (Rl := fr [(5, 6)] [] C) (ci := 4) (v := .int ((gi (K123 5) 4) + 1)) (ty := .int) (CC := RX4) (T := TX4) (N := 6) hx hb htg ig_4 tyX4 tyX4_ok nmX4 hown hK hP hD hS 5 (by decide) (sX_5 hT) rfl 5 (by decide) (htg _ q_224) (fun _ h9 => h9) rfl (by decide +kernel) rfl rfl (Nat.le_of_ble_eq_true rfl) (hT.up 5 ⟨rfl, (fX_5_1 hT), (fX_5_2 hT), (fX_5_4 hT), (rg_w (rg_add (lo := 2) (hi := 250) (rn_ltu (u' := 249) c_177 (rn_lel c_176 (rn_lel c_175 (rn_ltl (l' := 1) c_177 (fX_5_4 t_174) (fX_5_1 t_174) (by decide)) (fX_5_5 t_174)) (fX_5_4 t_174)) (fX_5_1 t_174) (by decide)) (rg_c (v := 1) (lo := 1) (hi := 1) (by decide)) (by decide)) (by decide))⟩) (fr_st hF (by decide) (by decide)) dX4_advance_239 (fun C_183 H locs e_184 hT hF hP hD hS => ?_)
                          have t_185 := hT
                          rw [hQ]
                          exact W.vret hx hb hr (fun t ht hW => ⟨⟨C_183, rfl, ⟨hT, hF, (Eq.trans (Eq.trans (show gi (C_183 5) 2 = gi (C_180 5) 2 by rw [e_184]; rfl) (show gi (C_180 5) 2 = gi (K123 5) 2 by rw [e_181]; rfl)) hv_123)⟩, ⟨by rw [ht]; exact hP, hD⟩⟩, hS.F ht⟩) hS.2.2 dX4_advance_242
                        · refine lv_iconst (v := 3) hx hb dX4_advance_224 (by decide) ?_
                          refine lv_goto (tgt := 229) hx hb dX4_advance_225 (by decide) ?_
                          refine th_put (Tp := TyX a E) (Rl := fr [(5, 6)] [] C) (ci := 4) (v := .int 3) (ty := .int) (CC := RX4) (T := TX4) (N := 6) hx hb htg ig_4 tyX4 tyX4_ok nmX4 hown hK hP hD hS 5 (by decide) (sX_5 hT) rfl 3 (by decide) (htg _ q_222) (fun _ h9 => h9) rfl (by decide +kernel) rfl rfl (Nat.le_of_ble_eq_true rfl) (hT.up 5 ⟨rfl, (fX_5_1 hT), (fX_5_2 hT), (fX_5_4 hT), (fX_5_5 hT)⟩) (fr_st hF (by decide) (by decide)) dX4_advance_229 (fun C_186 H locs e_187 hT hF hP hD hS => ?_)
                          have t_188 := hT
                          refine lv_aload_n hx hb dX4_advance_232 rfl (lv_at hl 0 rfl) ?_
                          refine lv_aload_n hx hb dX4_advance_233 rfl (lv_at hl 0 rfl) ?_
                          refine va_get (D := D) (ci := 4) (v := .int (gi (K123 5) 4)) (C := RX4) (T := TX4) (N := 6) hx hb htg ig_4 hown hK hP 5 (oh_wg (by decide) (sX_5 hT)) rfl 4 (by decide) (htg _ q_223) (fun _ h9 => h9) (oh_fv (c := C_186 5) (j := 4) rfl (show gi (C_186 5) 4 = gi (K123 5) 4 by rw [e_187]; rfl)) dX4_advance_234 ?_
                          refine lv_iconst (v := 1) hx hb dX4_advance_237 (by decide) ?_
                          refine lv_iadd hx hb dX4_advance_238 ?_
                          refine th_put (Tp := TyX a E) (Rl := fr [(5, 6)] [] C) (ci := 4) (v := .int ((gi (K123 5) 4) + 1)) (ty := .int) (CC := RX4) (T := TX4) (N := 6) hx hb htg ig_4 tyX4 tyX4_ok nmX4 hown hK hP hD hS 5 (by decide) (sX_5 hT) rfl 5 (by decide) (htg _ q_224) (fun _ h9 => h9) rfl (by decide +kernel) rfl rfl (Nat.le_of_ble_eq_true rfl) (hT.up 5 ⟨rfl, (fX_5_1 hT), (fX_5_2 hT), (fX_5_4 hT), (rg_w (rg_add (lo := 2) (hi := 250) (rn_ltu (u' := 249) c_177 (rn_lel c_176 (rn_lel c_175 (rn_ltl (l' := 1) c_177 (fX_5_4 t_174) (fX_5_1 t_174) (by decide)) (fX_5_5 t_174)) (fX_5_4 t_174)) (fX_5_1 t_174) (by decide)) (rg_c (v := 1) (lo := 1) (hi := 1) (by decide)) (by decide)) (by decide))⟩) (fr_st hF (by decide) (by decide)) dX4_advance_239 (fun C_189 H locs e_190 hT hF hP hD hS => ?_)
                          have t_191 := hT
                          rw [hQ]
                          exact W.vret hx hb hr (fun t ht hW => ⟨⟨C_189, rfl, ⟨hT, hF, (Eq.trans (Eq.trans (show gi (C_189 5) 2 = gi (C_186 5) 2 by rw [e_190]; rfl) (show gi (C_186 5) 2 = gi (K123 5) 2 by rw [e_187]; rfl)) hv_123)⟩, ⟨by rw [ht]; exact hP, hD⟩⟩, hS.F ht⟩) hS.2.2 dX4_advance_242
                      · refine lv_aload_n hx hb dX4_advance_203 rfl (lv_at hl 0 rfl) ?_
                        refine lv_iconst (v := 0) hx hb dX4_advance_204 (by decide) ?_
                        refine th_put (Tp := TyX a E) (Rl := fr [(5, 6)] [] C) (ci := 4) (v := .int 0) (ty := .int) (CC := RX4) (T := TX4) (N := 6) hx hb htg ig_4 tyX4 tyX4_ok nmX4 hown hK hP hD hS 5 (by decide) (sX_5 hT) rfl 3 (by decide) (htg _ q_222) (fun _ h9 => h9) rfl (by decide +kernel) rfl rfl (Nat.le_of_ble_eq_true rfl) (hT.up 5 ⟨rfl, (fX_5_1 hT), (fX_5_2 hT), (fX_5_4 hT), (fX_5_5 hT)⟩) (fr_st hF (by decide) (by decide)) dX4_advance_205 (fun C_192 H locs e_193 hT hF hP hD hS => ?_)
                        have t_194 := hT
                        rw [hQ]
                        exact W.vret hx hb hr (fun t ht hW => ⟨⟨C_192, rfl, ⟨hT, hF, (Eq.trans (show gi (C_192 5) 2 = gi (K123 5) 2 by rw [e_193]; rfl) hv_123)⟩, ⟨by rw [ht]; exact hP, hD⟩⟩, hS.F ht⟩) hS.2.2 dX4_advance_208
                    · refine lv_aload_n hx hb dX4_advance_186 rfl (lv_at hl 0 rfl) ?_
                      refine lv_iconst (v := 2) hx hb dX4_advance_187 (by decide) ?_
                      refine th_put (Tp := TyX a E) (Rl := fr [(5, 6)] [] C) (ci := 4) (v := .int 2) (ty := .int) (CC := RX4) (T := TX4) (N := 6) hx hb htg ig_4 tyX4 tyX4_ok nmX4 hown hK hP hD hS 5 (by decide) (sX_5 hT) rfl 3 (by decide) (htg _ q_222) (fun _ h9 => h9) rfl (by decide +kernel) rfl rfl (Nat.le_of_ble_eq_true rfl) (hT.up 5 ⟨rfl, (fX_5_1 hT), (fX_5_2 hT), (fX_5_4 hT), (fX_5_5 hT)⟩) (fr_st hF (by decide) (by decide)) dX4_advance_188 (fun C_195 H locs e_196 hT hF hP hD hS => ?_)
                      have t_197 := hT
                      rw [hQ]
                      exact W.vret hx hb hr (fun t ht hW => ⟨⟨C_195, rfl, ⟨hT, hF, (Eq.trans (show gi (C_195 5) 2 = gi (K123 5) 2 by rw [e_196]; rfl) hv_123)⟩, ⟨by rw [ht]; exact hP, hD⟩⟩, hS.F ht⟩) hS.2.2 dX4_advance_191
                  · refine lv_aload_n hx hb dX4_advance_134 rfl (lv_at hl 0 rfl) ?_
                    refine va_get (D := D) (ci := 4) (v := .ref (a 32)) (C := RX4) (T := TX4) (N := 6) hx hb htg ig_4 hown hK hP 5 (oh_wg (by decide) (sX_5 hT)) rfl 0 (by decide) (htg _ q_217) (fun _ h9 => h9) rfl dX4_advance_135 ?_
                    refine lv_aload_n hx hb dX4_advance_138 rfl (lv_at hl 0 rfl) ?_
                    refine va_get (D := D) (ci := 4) (v := .int (gi (K123 5) 5)) (C := RX4) (T := TX4) (N := 6) hx hb htg ig_4 hown hK hP 5 (oh_wg (by decide) (sX_5 hT)) rfl 5 (by decide) (htg _ q_224) (fun _ h9 => h9) rfl dX4_advance_139 ?_
                    have n_198 : vp_in (gi (K123 5) 5) 250 := (rg_in (rn_ltu (u' := 249) (Int32.not_le.mp c_175) (fX_5_5 t_174) (fX_5_1 t_174) (by decide)) (by decide))
                    refine th_iald hx hb hK hP 32 (by decide) (Eq.trans (Eq.trans (hLF_123.1 32 rfl (by decide)) (Eq.trans (hLF_54.1 32 rfl (by decide)) (Eq.trans (th_un e_7 (by decide)) (Eq.trans (hLF_8.1 32 rfl (by decide)) (th_un e_2 (by decide)))))) (sX_32 hT0)) n_198 dX4_advance_142 ?_
                    refine lv_bipush (v := 48) hx hb dX4_advance_143 (by decide) ?_
                    refine lv_icmp_lt (tgt := 175) hx hb dX4_advance_145 (by decide) (fun (c_199 : (ga (C 32) (gi (K123 5) 5).toNatClampNeg) < 48) => ?_) (fun (c_199 : ¬ ((ga (C 32) (gi (K123 5) 5).toNatClampNeg) < 48)) => ?_)
                    · refine lv_aload_n hx hb dX4_advance_175 rfl (lv_at hl 0 rfl) ?_
                      refine va_get (D := D) (ci := 4) (v := .int (gi (K123 5) 5)) (C := RX4) (T := TX4) (N := 6) hx hb htg ig_4 hown hK hP 5 (oh_wg (by decide) (sX_5 hT)) rfl 5 (by decide) (htg _ q_224) (fun _ h9 => h9) rfl dX4_advance_176 ?_
                      refine lv_aload_n hx hb dX4_advance_179 rfl (lv_at hl 0 rfl) ?_
                      refine va_get (D := D) (ci := 4) (v := .int (gi (K123 5) 4)) (C := RX4) (T := TX4) (N := 6) hx hb htg ig_4 hown hK hP 5 (oh_wg (by decide) (sX_5 hT)) rfl 4 (by decide) (htg _ q_223) (fun _ h9 => h9) rfl dX4_advance_180 ?_
                      refine lv_icmp_le (tgt := 192) hx hb dX4_advance_183 (by decide) (fun (c_200 : (gi (K123 5) 5) ≤ (gi (K123 5) 4)) => ?_) (fun (c_200 : ¬ ((gi (K123 5) 5) ≤ (gi (K123 5) 4))) => ?_)
                      · refine lv_aload_n hx hb dX4_advance_192 rfl (lv_at hl 0 rfl) ?_
                        refine va_get (D := D) (ci := 4) (v := .int (gi (K123 5) 4)) (C := RX4) (T := TX4) (N := 6) hx hb htg ig_4 hown hK hP 5 (oh_wg (by decide) (sX_5 hT)) rfl 4 (by decide) (htg _ q_223) (fun _ h9 => h9) rfl dX4_advance_193 ?_
                        refine lv_aload_n hx hb dX4_advance_196 rfl (lv_at hl 0 rfl) ?_
                        refine va_get (D := D) (ci := 4) (v := .int (gi (K123 5) 1)) (C := RX4) (T := TX4) (N := 6) hx hb htg ig_4 hown hK hP 5 (oh_wg (by decide) (sX_5 hT)) rfl 1 (by decide) (htg _ q_218) (fun _ h9 => h9) rfl dX4_advance_197 ?_
                        refine lv_icmp_lt (tgt := 209) hx hb dX4_advance_200 (by decide) (fun (c_201 : (gi (K123 5) 4) < (gi (K123 5) 1)) => ?_) (fun (c_201 : ¬ ((gi (K123 5) 4) < (gi (K123 5) 1))) => ?_)
                        · refine lv_aload_n hx hb dX4_advance_209 rfl (lv_at hl 0 rfl) ?_
                          refine lv_aload_n hx hb dX4_advance_210 rfl (lv_at hl 0 rfl) ?_
                          refine va_get (D := D) (ci := 4) (v := .ref (a 32)) (C := RX4) (T := TX4) (N := 6) hx hb htg ig_4 hown hK hP 5 (oh_wg (by decide) (sX_5 hT)) rfl 0 (by decide) (htg _ q_217) (fun _ h9 => h9) rfl dX4_advance_211 ?_
                          refine lv_aload_n hx hb dX4_advance_214 rfl (lv_at hl 0 rfl) ?_
                          refine va_get (D := D) (ci := 4) (v := .int (gi (K123 5) 4)) (C := RX4) (T := TX4) (N := 6) hx hb htg ig_4 hown hK hP 5 (oh_wg (by decide) (sX_5 hT)) rfl 4 (by decide) (htg _ q_223) (fun _ h9 => h9) rfl dX4_advance_215 ?_
                          have n_202 : vp_in (gi (K123 5) 4) 250 := (rg_in (rn_ltu (u' := 249) c_201 (fX_5_4 t_174) (rn_ltl (l' := 1) (Int32.not_le.mp c_175) (fX_5_5 t_174) (fX_5_1 t_174) (by decide)) (by decide)) (by decide))
                          refine th_iald hx hb hK hP 32 (by decide) (Eq.trans (Eq.trans (hLF_123.1 32 rfl (by decide)) (Eq.trans (hLF_54.1 32 rfl (by decide)) (Eq.trans (th_un e_7 (by decide)) (Eq.trans (hLF_8.1 32 rfl (by decide)) (th_un e_2 (by decide)))))) (sX_32 hT0)) n_202 dX4_advance_218 ?_
                          refine lv_bipush (v := 59) hx hb dX4_advance_219 (by decide) ?_
                          refine lv_icmp_ne (tgt := 228) hx hb dX4_advance_221 (by decide) (fun (c_203 : ¬ ((ga (C 32) (gi (K123 5) 4).toNatClampNeg) = 59)) => ?_) (fun (c_203 : (ga (C 32) (gi (K123 5) 4).toNatClampNeg) = 59) => ?_)
                          · refine lv_iconst (v := 4) hx hb dX4_advance_228 (by decide) ?_
                            refine th_put (Tp := TyX a E) (Rl := fr [(5, 6)] [] C) (ci := 4) (v := .int 4) (ty := .int) (CC := RX4) (T := TX4) (N := 6) hx hb htg ig_4 tyX4 tyX4_ok nmX4 hown hK hP hD hS 5 (by decide) (sX_5 hT) rfl 3 (by decide) (htg _ q_222) (fun _ h9 => h9) rfl (by decide +kernel) rfl rfl (Nat.le_of_ble_eq_true rfl) (hT.up 5 ⟨rfl, (fX_5_1 hT), (fX_5_2 hT), (fX_5_4 hT), (fX_5_5 hT)⟩) (fr_st hF (by decide) (by decide)) dX4_advance_229 (fun C_204 H locs e_205 hT hF hP hD hS => ?_)
                            have t_206 := hT
                            refine lv_aload_n hx hb dX4_advance_232 rfl (lv_at hl 0 rfl) ?_
                            refine lv_aload_n hx hb dX4_advance_233 rfl (lv_at hl 0 rfl) ?_
                            refine va_get (D := D) (ci := 4) (v := .int (gi (K123 5) 4)) (C := RX4) (T := TX4) (N := 6) hx hb htg ig_4 hown hK hP 5 (oh_wg (by decide) (sX_5 hT)) rfl 4 (by decide) (htg _ q_223) (fun _ h9 => h9) (oh_fv (c := C_204 5) (j := 4) rfl (show gi (C_204 5) 4 = gi (K123 5) 4 by rw [e_205]; rfl)) dX4_advance_234 ?_
                            refine lv_iconst (v := 1) hx hb dX4_advance_237 (by decide) ?_
                            refine lv_iadd hx hb dX4_advance_238 ?_
                            refine th_put (Tp := TyX a E) (Rl := fr [(5, 6)] [] C) (ci := 4) (v := .int ((gi (K123 5) 4) + 1)) (ty := .int) (CC := RX4) (T := TX4) (N := 6) hx hb htg ig_4 tyX4 tyX4_ok nmX4 hown hK hP hD hS 5 (by decide) (sX_5 hT) rfl 5 (by decide) (htg _ q_224) (fun _ h9 => h9) rfl (by decide +kernel) rfl rfl (Nat.le_of_ble_eq_true rfl) (hT.up 5 ⟨rfl, (fX_5_1 hT), (fX_5_2 hT), (fX_5_4 hT), (rg_w (rg_add (lo := 1) (hi := 250) (rn_ltu (u' := 249) c_201 (fX_5_4 t_174) (rn_ltl (l' := 1) (Int32.not_le.mp c_175) (fX_5_5 t_174) (fX_5_1 t_174) (by decide)) (by decide)) (rg_c (v := 1) (lo := 1) (hi := 1) (by decide)) (by decide)) (by decide))⟩) (fr_st hF (by decide) (by decide)) dX4_advance_239 (fun C_207 H locs e_208 hT hF hP hD hS => ?_)
                            have t_209 := hT
                            rw [hQ]
                            exact W.vret hx hb hr (fun t ht hW => ⟨⟨C_207, rfl, ⟨hT, hF, (Eq.trans (Eq.trans (show gi (C_207 5) 2 = gi (C_204 5) 2 by rw [e_208]; rfl) (show gi (C_204 5) 2 = gi (K123 5) 2 by rw [e_205]; rfl)) hv_123)⟩, ⟨by rw [ht]; exact hP, hD⟩⟩, hS.F ht⟩) hS.2.2 dX4_advance_242
                          · refine lv_iconst (v := 3) hx hb dX4_advance_224 (by decide) ?_
                            refine lv_goto (tgt := 229) hx hb dX4_advance_225 (by decide) ?_
                            refine th_put (Tp := TyX a E) (Rl := fr [(5, 6)] [] C) (ci := 4) (v := .int 3) (ty := .int) (CC := RX4) (T := TX4) (N := 6) hx hb htg ig_4 tyX4 tyX4_ok nmX4 hown hK hP hD hS 5 (by decide) (sX_5 hT) rfl 3 (by decide) (htg _ q_222) (fun _ h9 => h9) rfl (by decide +kernel) rfl rfl (Nat.le_of_ble_eq_true rfl) (hT.up 5 ⟨rfl, (fX_5_1 hT), (fX_5_2 hT), (fX_5_4 hT), (fX_5_5 hT)⟩) (fr_st hF (by decide) (by decide)) dX4_advance_229 (fun C_210 H locs e_211 hT hF hP hD hS => ?_)
                            have t_212 := hT
                            refine lv_aload_n hx hb dX4_advance_232 rfl (lv_at hl 0 rfl) ?_
                            refine lv_aload_n hx hb dX4_advance_233 rfl (lv_at hl 0 rfl) ?_
                            refine va_get (D := D) (ci := 4) (v := .int (gi (K123 5) 4)) (C := RX4) (T := TX4) (N := 6) hx hb htg ig_4 hown hK hP 5 (oh_wg (by decide) (sX_5 hT)) rfl 4 (by decide) (htg _ q_223) (fun _ h9 => h9) (oh_fv (c := C_210 5) (j := 4) rfl (show gi (C_210 5) 4 = gi (K123 5) 4 by rw [e_211]; rfl)) dX4_advance_234 ?_
                            refine lv_iconst (v := 1) hx hb dX4_advance_237 (by decide) ?_
                            refine lv_iadd hx hb dX4_advance_238 ?_
                            refine th_put (Tp := TyX a E) (Rl := fr [(5, 6)] [] C) (ci := 4) (v := .int ((gi (K123 5) 4) + 1)) (ty := .int) (CC := RX4) (T := TX4) (N := 6) hx hb htg ig_4 tyX4 tyX4_ok nmX4 hown hK hP hD hS 5 (by decide) (sX_5 hT) rfl 5 (by decide) (htg _ q_224) (fun _ h9 => h9) rfl (by decide +kernel) rfl rfl (Nat.le_of_ble_eq_true rfl) (hT.up 5 ⟨rfl, (fX_5_1 hT), (fX_5_2 hT), (fX_5_4 hT), (rg_w (rg_add (lo := 1) (hi := 250) (rn_ltu (u' := 249) c_201 (fX_5_4 t_174) (rn_ltl (l' := 1) (Int32.not_le.mp c_175) (fX_5_5 t_174) (fX_5_1 t_174) (by decide)) (by decide)) (rg_c (v := 1) (lo := 1) (hi := 1) (by decide)) (by decide)) (by decide))⟩) (fr_st hF (by decide) (by decide)) dX4_advance_239 (fun C_213 H locs e_214 hT hF hP hD hS => ?_)
                            have t_215 := hT
                            rw [hQ]
                            exact W.vret hx hb hr (fun t ht hW => ⟨⟨C_213, rfl, ⟨hT, hF, (Eq.trans (Eq.trans (show gi (C_213 5) 2 = gi (C_210 5) 2 by rw [e_214]; rfl) (show gi (C_210 5) 2 = gi (K123 5) 2 by rw [e_211]; rfl)) hv_123)⟩, ⟨by rw [ht]; exact hP, hD⟩⟩, hS.F ht⟩) hS.2.2 dX4_advance_242
                        · refine lv_aload_n hx hb dX4_advance_203 rfl (lv_at hl 0 rfl) ?_
                          refine lv_iconst (v := 0) hx hb dX4_advance_204 (by decide) ?_
                          refine th_put (Tp := TyX a E) (Rl := fr [(5, 6)] [] C) (ci := 4) (v := .int 0) (ty := .int) (CC := RX4) (T := TX4) (N := 6) hx hb htg ig_4 tyX4 tyX4_ok nmX4 hown hK hP hD hS 5 (by decide) (sX_5 hT) rfl 3 (by decide) (htg _ q_222) (fun _ h9 => h9) rfl (by decide +kernel) rfl rfl (Nat.le_of_ble_eq_true rfl) (hT.up 5 ⟨rfl, (fX_5_1 hT), (fX_5_2 hT), (fX_5_4 hT), (fX_5_5 hT)⟩) (fr_st hF (by decide) (by decide)) dX4_advance_205 (fun C_216 H locs e_217 hT hF hP hD hS => ?_)
                          have t_218 := hT
                          rw [hQ]
                          exact W.vret hx hb hr (fun t ht hW => ⟨⟨C_216, rfl, ⟨hT, hF, (Eq.trans (show gi (C_216 5) 2 = gi (K123 5) 2 by rw [e_217]; rfl) hv_123)⟩, ⟨by rw [ht]; exact hP, hD⟩⟩, hS.F ht⟩) hS.2.2 dX4_advance_208
                      · refine lv_aload_n hx hb dX4_advance_186 rfl (lv_at hl 0 rfl) ?_
                        refine lv_iconst (v := 2) hx hb dX4_advance_187 (by decide) ?_
                        refine th_put (Tp := TyX a E) (Rl := fr [(5, 6)] [] C) (ci := 4) (v := .int 2) (ty := .int) (CC := RX4) (T := TX4) (N := 6) hx hb htg ig_4 tyX4 tyX4_ok nmX4 hown hK hP hD hS 5 (by decide) (sX_5 hT) rfl 3 (by decide) (htg _ q_222) (fun _ h9 => h9) rfl (by decide +kernel) rfl rfl (Nat.le_of_ble_eq_true rfl) (hT.up 5 ⟨rfl, (fX_5_1 hT), (fX_5_2 hT), (fX_5_4 hT), (fX_5_5 hT)⟩) (fr_st hF (by decide) (by decide)) dX4_advance_188 (fun C_219 H locs e_220 hT hF hP hD hS => ?_)
                        have t_221 := hT
                        rw [hQ]
                        exact W.vret hx hb hr (fun t ht hW => ⟨⟨C_219, rfl, ⟨hT, hF, (Eq.trans (show gi (C_219 5) 2 = gi (K123 5) 2 by rw [e_220]; rfl) hv_123)⟩, ⟨by rw [ht]; exact hP, hD⟩⟩, hS.F ht⟩) hS.2.2 dX4_advance_191
                    · refine lv_aload_n hx hb dX4_advance_148 rfl (lv_at hl 0 rfl) ?_
                      refine va_get (D := D) (ci := 4) (v := .ref (a 32)) (C := RX4) (T := TX4) (N := 6) hx hb htg ig_4 hown hK hP 5 (oh_wg (by decide) (sX_5 hT)) rfl 0 (by decide) (htg _ q_217) (fun _ h9 => h9) rfl dX4_advance_149 ?_
                      refine lv_aload_n hx hb dX4_advance_152 rfl (lv_at hl 0 rfl) ?_
                      refine va_get (D := D) (ci := 4) (v := .int (gi (K123 5) 5)) (C := RX4) (T := TX4) (N := 6) hx hb htg ig_4 hown hK hP 5 (oh_wg (by decide) (sX_5 hT)) rfl 5 (by decide) (htg _ q_224) (fun _ h9 => h9) rfl dX4_advance_153 ?_
                      have n_222 : vp_in (gi (K123 5) 5) 250 := (rg_in (rn_ltu (u' := 249) (Int32.not_le.mp c_175) (fX_5_5 t_174) (fX_5_1 t_174) (by decide)) (by decide))
                      refine th_iald hx hb hK hP 32 (by decide) (Eq.trans (Eq.trans (hLF_123.1 32 rfl (by decide)) (Eq.trans (hLF_54.1 32 rfl (by decide)) (Eq.trans (th_un e_7 (by decide)) (Eq.trans (hLF_8.1 32 rfl (by decide)) (th_un e_2 (by decide)))))) (sX_32 hT0)) n_222 dX4_advance_156 ?_
                      refine lv_bipush (v := 57) hx hb dX4_advance_157 (by decide) ?_
                      refine lv_icmp_gt (tgt := 175) hx hb dX4_advance_159 (by decide) (fun (c_223 : (57 : Int32) < (ga (C 32) (gi (K123 5) 5).toNatClampNeg)) => ?_) (fun (c_223 : ¬ ((57 : Int32) < (ga (C 32) (gi (K123 5) 5).toNatClampNeg))) => ?_)
                      · refine lv_aload_n hx hb dX4_advance_175 rfl (lv_at hl 0 rfl) ?_
                        refine va_get (D := D) (ci := 4) (v := .int (gi (K123 5) 5)) (C := RX4) (T := TX4) (N := 6) hx hb htg ig_4 hown hK hP 5 (oh_wg (by decide) (sX_5 hT)) rfl 5 (by decide) (htg _ q_224) (fun _ h9 => h9) rfl dX4_advance_176 ?_
                        refine lv_aload_n hx hb dX4_advance_179 rfl (lv_at hl 0 rfl) ?_
                        refine va_get (D := D) (ci := 4) (v := .int (gi (K123 5) 4)) (C := RX4) (T := TX4) (N := 6) hx hb htg ig_4 hown hK hP 5 (oh_wg (by decide) (sX_5 hT)) rfl 4 (by decide) (htg _ q_223) (fun _ h9 => h9) rfl dX4_advance_180 ?_
                        refine lv_icmp_le (tgt := 192) hx hb dX4_advance_183 (by decide) (fun (c_224 : (gi (K123 5) 5) ≤ (gi (K123 5) 4)) => ?_) (fun (c_224 : ¬ ((gi (K123 5) 5) ≤ (gi (K123 5) 4))) => ?_)
                        · refine lv_aload_n hx hb dX4_advance_192 rfl (lv_at hl 0 rfl) ?_
                          refine va_get (D := D) (ci := 4) (v := .int (gi (K123 5) 4)) (C := RX4) (T := TX4) (N := 6) hx hb htg ig_4 hown hK hP 5 (oh_wg (by decide) (sX_5 hT)) rfl 4 (by decide) (htg _ q_223) (fun _ h9 => h9) rfl dX4_advance_193 ?_
                          refine lv_aload_n hx hb dX4_advance_196 rfl (lv_at hl 0 rfl) ?_
                          refine va_get (D := D) (ci := 4) (v := .int (gi (K123 5) 1)) (C := RX4) (T := TX4) (N := 6) hx hb htg ig_4 hown hK hP 5 (oh_wg (by decide) (sX_5 hT)) rfl 1 (by decide) (htg _ q_218) (fun _ h9 => h9) rfl dX4_advance_197 ?_
                          refine lv_icmp_lt (tgt := 209) hx hb dX4_advance_200 (by decide) (fun (c_225 : (gi (K123 5) 4) < (gi (K123 5) 1)) => ?_) (fun (c_225 : ¬ ((gi (K123 5) 4) < (gi (K123 5) 1))) => ?_)
                          · refine lv_aload_n hx hb dX4_advance_209 rfl (lv_at hl 0 rfl) ?_
                            refine lv_aload_n hx hb dX4_advance_210 rfl (lv_at hl 0 rfl) ?_
                            refine va_get (D := D) (ci := 4) (v := .ref (a 32)) (C := RX4) (T := TX4) (N := 6) hx hb htg ig_4 hown hK hP 5 (oh_wg (by decide) (sX_5 hT)) rfl 0 (by decide) (htg _ q_217) (fun _ h9 => h9) rfl dX4_advance_211 ?_
                            refine lv_aload_n hx hb dX4_advance_214 rfl (lv_at hl 0 rfl) ?_
                            refine va_get (D := D) (ci := 4) (v := .int (gi (K123 5) 4)) (C := RX4) (T := TX4) (N := 6) hx hb htg ig_4 hown hK hP 5 (oh_wg (by decide) (sX_5 hT)) rfl 4 (by decide) (htg _ q_223) (fun _ h9 => h9) rfl dX4_advance_215 ?_
                            have n_226 : vp_in (gi (K123 5) 4) 250 := (rg_in (rn_ltu (u' := 249) c_225 (fX_5_4 t_174) (rn_ltl (l' := 1) (Int32.not_le.mp c_175) (fX_5_5 t_174) (fX_5_1 t_174) (by decide)) (by decide)) (by decide))
                            refine th_iald hx hb hK hP 32 (by decide) (Eq.trans (Eq.trans (hLF_123.1 32 rfl (by decide)) (Eq.trans (hLF_54.1 32 rfl (by decide)) (Eq.trans (th_un e_7 (by decide)) (Eq.trans (hLF_8.1 32 rfl (by decide)) (th_un e_2 (by decide)))))) (sX_32 hT0)) n_226 dX4_advance_218 ?_
                            refine lv_bipush (v := 59) hx hb dX4_advance_219 (by decide) ?_
                            refine lv_icmp_ne (tgt := 228) hx hb dX4_advance_221 (by decide) (fun (c_227 : ¬ ((ga (C 32) (gi (K123 5) 4).toNatClampNeg) = 59)) => ?_) (fun (c_227 : (ga (C 32) (gi (K123 5) 4).toNatClampNeg) = 59) => ?_)
                            · refine lv_iconst (v := 4) hx hb dX4_advance_228 (by decide) ?_
                              refine th_put (Tp := TyX a E) (Rl := fr [(5, 6)] [] C) (ci := 4) (v := .int 4) (ty := .int) (CC := RX4) (T := TX4) (N := 6) hx hb htg ig_4 tyX4 tyX4_ok nmX4 hown hK hP hD hS 5 (by decide) (sX_5 hT) rfl 3 (by decide) (htg _ q_222) (fun _ h9 => h9) rfl (by decide +kernel) rfl rfl (Nat.le_of_ble_eq_true rfl) (hT.up 5 ⟨rfl, (fX_5_1 hT), (fX_5_2 hT), (fX_5_4 hT), (fX_5_5 hT)⟩) (fr_st hF (by decide) (by decide)) dX4_advance_229 (fun C_228 H locs e_229 hT hF hP hD hS => ?_)
                              have t_230 := hT
                              refine lv_aload_n hx hb dX4_advance_232 rfl (lv_at hl 0 rfl) ?_
                              refine lv_aload_n hx hb dX4_advance_233 rfl (lv_at hl 0 rfl) ?_
                              refine va_get (D := D) (ci := 4) (v := .int (gi (K123 5) 4)) (C := RX4) (T := TX4) (N := 6) hx hb htg ig_4 hown hK hP 5 (oh_wg (by decide) (sX_5 hT)) rfl 4 (by decide) (htg _ q_223) (fun _ h9 => h9) (oh_fv (c := C_228 5) (j := 4) rfl (show gi (C_228 5) 4 = gi (K123 5) 4 by rw [e_229]; rfl)) dX4_advance_234 ?_
                              refine lv_iconst (v := 1) hx hb dX4_advance_237 (by decide) ?_
                              refine lv_iadd hx hb dX4_advance_238 ?_
                              refine th_put (Tp := TyX a E) (Rl := fr [(5, 6)] [] C) (ci := 4) (v := .int ((gi (K123 5) 4) + 1)) (ty := .int) (CC := RX4) (T := TX4) (N := 6) hx hb htg ig_4 tyX4 tyX4_ok nmX4 hown hK hP hD hS 5 (by decide) (sX_5 hT) rfl 5 (by decide) (htg _ q_224) (fun _ h9 => h9) rfl (by decide +kernel) rfl rfl (Nat.le_of_ble_eq_true rfl) (hT.up 5 ⟨rfl, (fX_5_1 hT), (fX_5_2 hT), (fX_5_4 hT), (rg_w (rg_add (lo := 1) (hi := 250) (rn_ltu (u' := 249) c_225 (fX_5_4 t_174) (rn_ltl (l' := 1) (Int32.not_le.mp c_175) (fX_5_5 t_174) (fX_5_1 t_174) (by decide)) (by decide)) (rg_c (v := 1) (lo := 1) (hi := 1) (by decide)) (by decide)) (by decide))⟩) (fr_st hF (by decide) (by decide)) dX4_advance_239 (fun C_231 H locs e_232 hT hF hP hD hS => ?_)
                              have t_233 := hT
                              rw [hQ]
                              exact W.vret hx hb hr (fun t ht hW => ⟨⟨C_231, rfl, ⟨hT, hF, (Eq.trans (Eq.trans (show gi (C_231 5) 2 = gi (C_228 5) 2 by rw [e_232]; rfl) (show gi (C_228 5) 2 = gi (K123 5) 2 by rw [e_229]; rfl)) hv_123)⟩, ⟨by rw [ht]; exact hP, hD⟩⟩, hS.F ht⟩) hS.2.2 dX4_advance_242
                            · refine lv_iconst (v := 3) hx hb dX4_advance_224 (by decide) ?_
                              refine lv_goto (tgt := 229) hx hb dX4_advance_225 (by decide) ?_
                              refine th_put (Tp := TyX a E) (Rl := fr [(5, 6)] [] C) (ci := 4) (v := .int 3) (ty := .int) (CC := RX4) (T := TX4) (N := 6) hx hb htg ig_4 tyX4 tyX4_ok nmX4 hown hK hP hD hS 5 (by decide) (sX_5 hT) rfl 3 (by decide) (htg _ q_222) (fun _ h9 => h9) rfl (by decide +kernel) rfl rfl (Nat.le_of_ble_eq_true rfl) (hT.up 5 ⟨rfl, (fX_5_1 hT), (fX_5_2 hT), (fX_5_4 hT), (fX_5_5 hT)⟩) (fr_st hF (by decide) (by decide)) dX4_advance_229 (fun C_234 H locs e_235 hT hF hP hD hS => ?_)
                              have t_236 := hT
                              refine lv_aload_n hx hb dX4_advance_232 rfl (lv_at hl 0 rfl) ?_
                              refine lv_aload_n hx hb dX4_advance_233 rfl (lv_at hl 0 rfl) ?_
                              refine va_get (D := D) (ci := 4) (v := .int (gi (K123 5) 4)) (C := RX4) (T := TX4) (N := 6) hx hb htg ig_4 hown hK hP 5 (oh_wg (by decide) (sX_5 hT)) rfl 4 (by decide) (htg _ q_223) (fun _ h9 => h9) (oh_fv (c := C_234 5) (j := 4) rfl (show gi (C_234 5) 4 = gi (K123 5) 4 by rw [e_235]; rfl)) dX4_advance_234 ?_
                              refine lv_iconst (v := 1) hx hb dX4_advance_237 (by decide) ?_
                              refine lv_iadd hx hb dX4_advance_238 ?_
                              refine th_put (Tp := TyX a E) (Rl := fr [(5, 6)] [] C) (ci := 4) (v := .int ((gi (K123 5) 4) + 1)) (ty := .int) (CC := RX4) (T := TX4) (N := 6) hx hb htg ig_4 tyX4 tyX4_ok nmX4 hown hK hP hD hS 5 (by decide) (sX_5 hT) rfl 5 (by decide) (htg _ q_224) (fun _ h9 => h9) rfl (by decide +kernel) rfl rfl (Nat.le_of_ble_eq_true rfl) (hT.up 5 ⟨rfl, (fX_5_1 hT), (fX_5_2 hT), (fX_5_4 hT), (rg_w (rg_add (lo := 1) (hi := 250) (rn_ltu (u' := 249) c_225 (fX_5_4 t_174) (rn_ltl (l' := 1) (Int32.not_le.mp c_175) (fX_5_5 t_174) (fX_5_1 t_174) (by decide)) (by decide)) (rg_c (v := 1) (lo := 1) (hi := 1) (by decide)) (by decide)) (by decide))⟩) (fr_st hF (by decide) (by decide)) dX4_advance_239 (fun C_237 H locs e_238 hT hF hP hD hS => ?_)
                              have t_239 := hT
                              rw [hQ]
                              exact W.vret hx hb hr (fun t ht hW => ⟨⟨C_237, rfl, ⟨hT, hF, (Eq.trans (Eq.trans (show gi (C_237 5) 2 = gi (C_234 5) 2 by rw [e_238]; rfl) (show gi (C_234 5) 2 = gi (K123 5) 2 by rw [e_235]; rfl)) hv_123)⟩, ⟨by rw [ht]; exact hP, hD⟩⟩, hS.F ht⟩) hS.2.2 dX4_advance_242
                          · refine lv_aload_n hx hb dX4_advance_203 rfl (lv_at hl 0 rfl) ?_
                            refine lv_iconst (v := 0) hx hb dX4_advance_204 (by decide) ?_
                            refine th_put (Tp := TyX a E) (Rl := fr [(5, 6)] [] C) (ci := 4) (v := .int 0) (ty := .int) (CC := RX4) (T := TX4) (N := 6) hx hb htg ig_4 tyX4 tyX4_ok nmX4 hown hK hP hD hS 5 (by decide) (sX_5 hT) rfl 3 (by decide) (htg _ q_222) (fun _ h9 => h9) rfl (by decide +kernel) rfl rfl (Nat.le_of_ble_eq_true rfl) (hT.up 5 ⟨rfl, (fX_5_1 hT), (fX_5_2 hT), (fX_5_4 hT), (fX_5_5 hT)⟩) (fr_st hF (by decide) (by decide)) dX4_advance_205 (fun C_240 H locs e_241 hT hF hP hD hS => ?_)
                            have t_242 := hT
                            rw [hQ]
                            exact W.vret hx hb hr (fun t ht hW => ⟨⟨C_240, rfl, ⟨hT, hF, (Eq.trans (show gi (C_240 5) 2 = gi (K123 5) 2 by rw [e_241]; rfl) hv_123)⟩, ⟨by rw [ht]; exact hP, hD⟩⟩, hS.F ht⟩) hS.2.2 dX4_advance_208
                        · refine lv_aload_n hx hb dX4_advance_186 rfl (lv_at hl 0 rfl) ?_
                          refine lv_iconst (v := 2) hx hb dX4_advance_187 (by decide) ?_
                          refine th_put (Tp := TyX a E) (Rl := fr [(5, 6)] [] C) (ci := 4) (v := .int 2) (ty := .int) (CC := RX4) (T := TX4) (N := 6) hx hb htg ig_4 tyX4 tyX4_ok nmX4 hown hK hP hD hS 5 (by decide) (sX_5 hT) rfl 3 (by decide) (htg _ q_222) (fun _ h9 => h9) rfl (by decide +kernel) rfl rfl (Nat.le_of_ble_eq_true rfl) (hT.up 5 ⟨rfl, (fX_5_1 hT), (fX_5_2 hT), (fX_5_4 hT), (fX_5_5 hT)⟩) (fr_st hF (by decide) (by decide)) dX4_advance_188 (fun C_243 H locs e_244 hT hF hP hD hS => ?_)
                          have t_245 := hT
                          rw [hQ]
                          exact W.vret hx hb hr (fun t ht hW => ⟨⟨C_243, rfl, ⟨hT, hF, (Eq.trans (show gi (C_243 5) 2 = gi (K123 5) 2 by rw [e_244]; rfl) hv_123)⟩, ⟨by rw [ht]; exact hP, hD⟩⟩, hS.F ht⟩) hS.2.2 dX4_advance_191
                      · refine lv_aload_n hx hb dX4_advance_162 rfl (lv_at hl 0 rfl) ?_
                        refine lv_dup hx hb dX4_advance_163 rfl ?_
                        refine va_get (D := D) (ci := 4) (v := .int (gi (K123 5) 5)) (C := RX4) (T := TX4) (N := 6) hx hb htg ig_4 hown hK hP 5 (oh_wg (by decide) (sX_5 hT)) rfl 5 (by decide) (htg _ q_224) (fun _ h9 => h9) rfl dX4_advance_164 ?_
                        refine lv_iconst (v := 1) hx hb dX4_advance_167 (by decide) ?_
                        refine lv_iadd hx hb dX4_advance_168 ?_
                        refine th_put (Tp := TyX a E) (Rl := fr [(5, 6)] [] C) (ci := 4) (v := .int ((gi (K123 5) 5) + 1)) (ty := .int) (CC := RX4) (T := TX4) (N := 6) hx hb htg ig_4 tyX4 tyX4_ok nmX4 hown hK hP hD hS 5 (by decide) (sX_5 hT) rfl 5 (by decide) (htg _ q_224) (fun _ h9 => h9) rfl (by decide +kernel) rfl rfl (Nat.le_of_ble_eq_true rfl) (hT.up 5 ⟨rfl, (fX_5_1 hT), (fX_5_2 hT), (fX_5_4 hT), (rg_w (rg_add (lo := 1) (hi := 250) (rn_ltu (u' := 249) (Int32.not_le.mp c_175) (fX_5_5 t_174) (fX_5_1 t_174) (by decide)) (rg_c (v := 1) (lo := 1) (hi := 1) (by decide)) (by decide)) (by decide))⟩) (fr_st hF (by decide) (by decide)) dX4_advance_169 (fun C_246 H locs e_247 hT hF hP hD hS => ?_)
                        have t_248 := hT
                        refine lv_goto (tgt := 123) hx hb dX4_advance_172 (by decide) ?_
                        exact ih_123 _ (hd_123 ▸ (by rw [(show gi (C_246 5) 5 = ((gi (K123 5) 5) + 1) by rw [e_247]; rfl)]; exact mu_up 250 (rn_ltu (u' := 249) (Int32.not_le.mp c_175) (fX_5_5 t_174) (fX_5_1 t_174) (by decide)) (by decide))) C_246  _ _ ls rfl (Eq.trans (show gi (C_246 5) 2 = gi (K123 5) 2 by rw [e_247]; rfl) hv_123) hT hF (fr_ste hLF_123 e_247 (by decide) (by decide)) hP hD hS (lv_sub hl [0] rfl)
                exact L_123 _ K54  _ _ ls rfl (Eq.trans rfl hv_54) hT hF fr_rf hP hD hS (lv_sub hl [0] rfl)
              · refine lv_aload_n hx hb dX4_advance_117 rfl (lv_at hl 0 rfl) ?_
                refine lv_iconst (v := 1) hx hb dX4_advance_118 (by decide) ?_
                refine th_put (Tp := TyX a E) (Rl := fr [(5, 6)] [] C) (ci := 4) (v := .int 1) (ty := .int) (CC := RX4) (T := TX4) (N := 6) hx hb htg ig_4 tyX4 tyX4_ok nmX4 hown hK hP hD hS 5 (by decide) (sX_5 hT) rfl 3 (by decide) (htg _ q_222) (fun _ h9 => h9) rfl (by decide +kernel) rfl rfl (Nat.le_of_ble_eq_true rfl) (hT.up 5 ⟨rfl, (fX_5_1 hT), (fX_5_2 hT), (fX_5_4 hT), (fX_5_5 hT)⟩) (fr_st hF (by decide) (by decide)) dX4_advance_119 (fun C_249 H locs e_250 hT hF hP hD hS => ?_)
                have t_251 := hT
                rw [hQ]
                exact W.vret hx hb hr (fun t ht hW => ⟨⟨C_249, rfl, ⟨hT, hF, (Eq.trans (show gi (C_249 5) 2 = gi (K54 5) 2 by rw [e_250]; rfl) hv_54)⟩, ⟨by rw [ht]; exact hP, hD⟩⟩, hS.F ht⟩) hS.2.2 dX4_advance_122
            · refine lv_aload_n hx hb dX4_advance_93 rfl (lv_at hl 0 rfl) ?_
              refine lv_dup hx hb dX4_advance_94 rfl ?_
              refine va_get (D := D) (ci := 4) (v := .int (gi (K54 5) 5)) (C := RX4) (T := TX4) (N := 6) hx hb htg ig_4 hown hK hP 5 (oh_wg (by decide) (sX_5 hT)) rfl 5 (by decide) (htg _ q_224) (fun _ h9 => h9) rfl dX4_advance_95 ?_
              refine lv_iconst (v := 1) hx hb dX4_advance_98 (by decide) ?_
              refine lv_iadd hx hb dX4_advance_99 ?_
              refine th_put (Tp := TyX a E) (Rl := fr [(5, 6)] [] C) (ci := 4) (v := .int ((gi (K54 5) 5) + 1)) (ty := .int) (CC := RX4) (T := TX4) (N := 6) hx hb htg ig_4 tyX4 tyX4_ok nmX4 hown hK hP hD hS 5 (by decide) (sX_5 hT) rfl 5 (by decide) (htg _ q_224) (fun _ h9 => h9) rfl (by decide +kernel) rfl rfl (Nat.le_of_ble_eq_true rfl) (hT.up 5 ⟨rfl, (fX_5_1 hT), (fX_5_2 hT), (fX_5_4 hT), (rg_w (rg_add (lo := 1) (hi := 250) (rn_ltu (u' := 249) (Int32.not_le.mp c_10) (fX_5_5 t_9) (fX_5_1 t_9) (by decide)) (rg_c (v := 1) (lo := 1) (hi := 1) (by decide)) (by decide)) (by decide))⟩) (fr_st hF (by decide) (by decide)) dX4_advance_100 (fun C_252 H locs e_253 hT hF hP hD hS => ?_)
              have t_254 := hT
              refine lv_goto (tgt := 54) hx hb dX4_advance_103 (by decide) ?_
              exact ih_54 _ (hd_54 ▸ (by rw [(show gi (C_252 5) 5 = ((gi (K54 5) 5) + 1) by rw [e_253]; rfl)]; exact mu_up 250 (rn_ltu (u' := 249) (Int32.not_le.mp c_10) (fX_5_5 t_9) (fX_5_1 t_9) (by decide)) (by decide))) C_252  _ _ ls rfl (Eq.trans (show gi (C_252 5) 2 = gi (K54 5) 2 by rw [e_253]; rfl) hv_54) hT hF (fr_ste hLF_54 e_253 (by decide) (by decide)) hP hD hS (lv_sub hl [0] rfl)
      exact L_54 _ C_6  _ _ ls rfl (Eq.trans (show gi (C_6 5) 2 = gi (K8 5) 2 by rw [e_7]; rfl) hv_8) hT hF fr_rf hP hD hS (lv_sub hl [0] rfl)
    · refine lv_aload_n hx hb dX4_advance_19 rfl (lv_at hl 0 rfl) ?_
      refine va_get (D := D) (ci := 4) (v := .ref (a 32)) (C := RX4) (T := TX4) (N := 6) hx hb htg ig_4 hown hK hP 5 (oh_wg (by decide) (sX_5 hT)) rfl 0 (by decide) (htg _ q_217) (fun _ h9 => h9) rfl dX4_advance_20 ?_
      refine lv_aload_n hx hb dX4_advance_23 rfl (lv_at hl 0 rfl) ?_
      refine va_get (D := D) (ci := 4) (v := .int (gi (K8 5) 4)) (C := RX4) (T := TX4) (N := 6) hx hb htg ig_4 hown hK hP 5 (oh_wg (by decide) (sX_5 hT)) rfl 4 (by decide) (htg _ q_223) (fun _ h9 => h9) rfl dX4_advance_24 ?_
      have n_255 : vp_in (gi (K8 5) 4) 250 := (rg_in (rn_ltu (u' := 249) (Int32.not_le.mp c_5) (fX_5_4 t_4) (fX_5_1 t_4) (by decide)) (by decide))
      refine th_iald hx hb hK hP 32 (by decide) (Eq.trans (Eq.trans (hLF_8.1 32 rfl (by decide)) (th_un e_2 (by decide))) (sX_32 hT0)) n_255 dX4_advance_27 ?_
      refine lv_bipush (v := 32) hx hb dX4_advance_28 (by decide) ?_
      refine lv_icmp_ne (tgt := 46) hx hb dX4_advance_30 (by decide) (fun (c_256 : ¬ ((ga (C 32) (gi (K8 5) 4).toNatClampNeg) = 32)) => ?_) (fun (c_256 : (ga (C 32) (gi (K8 5) 4).toNatClampNeg) = 32) => ?_)
      · refine lv_aload_n hx hb dX4_advance_46 rfl (lv_at hl 0 rfl) ?_
        refine lv_aload_n hx hb dX4_advance_47 rfl (lv_at hl 0 rfl) ?_
        refine va_get (D := D) (ci := 4) (v := .int (gi (K8 5) 4)) (C := RX4) (T := TX4) (N := 6) hx hb htg ig_4 hown hK hP 5 (oh_wg (by decide) (sX_5 hT)) rfl 4 (by decide) (htg _ q_223) (fun _ h9 => h9) rfl dX4_advance_48 ?_
        refine th_put (Tp := TyX a E) (Rl := fr [(5, 6)] [] C) (ci := 4) (v := .int (gi (K8 5) 4)) (ty := .int) (CC := RX4) (T := TX4) (N := 6) hx hb htg ig_4 tyX4 tyX4_ok nmX4 hown hK hP hD hS 5 (by decide) (sX_5 hT) rfl 5 (by decide) (htg _ q_224) (fun _ h9 => h9) rfl (by decide +kernel) rfl rfl (Nat.le_of_ble_eq_true rfl) (hT.up 5 ⟨rfl, (fX_5_1 hT), (fX_5_2 hT), (fX_5_4 hT), (rg_w (rn_ltu (u' := 249) (Int32.not_le.mp c_5) (fX_5_4 t_4) (fX_5_1 t_4) (by decide)) (by decide))⟩) (fr_st hF (by decide) (by decide)) dX4_advance_51 (fun C_257 H locs e_258 hT hF hP hD hS => ?_)
        have t_259 := hT
        have L_54 : ∀ (d : Nat) (K54 : Nat → va_E) (H : Heap) (locs : List Loc) (ls : Array Slot), (250 - (gi (K54 5) 5).toInt).toNat = d → (gi (K54 5) 2 = gi (C 5) 2) → TyX a E K54 → fr [(5, 6)] [] C K54 → fr [(5, 6)] [] C_257 K54 → va_P D vwCl (oh_W 35 a K54) H → va_D A (oh_W 35 a K54) → va_S A s.heap H locs → lv_has ls 1 [(0, .ref (a 5))] → W p l e ({ frames := 0, cells := 0, slots := 0, locals := 0 }) s m (([.ref (a 5)] : List Value).toArray) below meth c H locs 0 0 Q (F0 m 54 ls []) := by
          intro d
          induction d using Nat.strongRecOn with
          | ind d ih_54 =>
          intro K54  H locs ls hd_54 hv_54 hT hF hLF_54 hP hD hS hl
          have t_260 := hT
          refine lv_aload_n hx hb dX4_advance_54 rfl (lv_at hl 0 rfl) ?_
          refine va_get (D := D) (ci := 4) (v := .int (gi (K54 5) 5)) (C := RX4) (T := TX4) (N := 6) hx hb htg ig_4 hown hK hP 5 (oh_wg (by decide) (sX_5 hT)) rfl 5 (by decide) (htg _ q_224) (fun _ h9 => h9) rfl dX4_advance_55 ?_
          refine lv_aload_n hx hb dX4_advance_58 rfl (lv_at hl 0 rfl) ?_
          refine va_get (D := D) (ci := 4) (v := .int (gi (K54 5) 1)) (C := RX4) (T := TX4) (N := 6) hx hb htg ig_4 hown hK hP 5 (oh_wg (by decide) (sX_5 hT)) rfl 1 (by decide) (htg _ q_218) (fun _ h9 => h9) rfl dX4_advance_59 ?_
          refine lv_icmp_ge (tgt := 106) hx hb dX4_advance_62 (by decide) (fun (c_261 : (gi (K54 5) 1) ≤ (gi (K54 5) 5)) => ?_) (fun (c_261 : ¬ ((gi (K54 5) 1) ≤ (gi (K54 5) 5))) => ?_)
          · refine lv_aload_n hx hb dX4_advance_106 rfl (lv_at hl 0 rfl) ?_
            refine va_get (D := D) (ci := 4) (v := .int (gi (K54 5) 5)) (C := RX4) (T := TX4) (N := 6) hx hb htg ig_4 hown hK hP 5 (oh_wg (by decide) (sX_5 hT)) rfl 5 (by decide) (htg _ q_224) (fun _ h9 => h9) rfl dX4_advance_107 ?_
            refine lv_aload_n hx hb dX4_advance_110 rfl (lv_at hl 0 rfl) ?_
            refine va_get (D := D) (ci := 4) (v := .int (gi (K54 5) 4)) (C := RX4) (T := TX4) (N := 6) hx hb htg ig_4 hown hK hP 5 (oh_wg (by decide) (sX_5 hT)) rfl 4 (by decide) (htg _ q_223) (fun _ h9 => h9) rfl dX4_advance_111 ?_
            refine lv_icmp_le (tgt := 123) hx hb dX4_advance_114 (by decide) (fun (c_262 : (gi (K54 5) 5) ≤ (gi (K54 5) 4)) => ?_) (fun (c_262 : ¬ ((gi (K54 5) 5) ≤ (gi (K54 5) 4))) => ?_)
            · have L_123 : ∀ (d : Nat) (K123 : Nat → va_E) (H : Heap) (locs : List Loc) (ls : Array Slot), (250 - (gi (K123 5) 5).toInt).toNat = d → (gi (K123 5) 2 = gi (C 5) 2) → TyX a E K123 → fr [(5, 6)] [] C K123 → fr [(5, 6)] [] K54 K123 → va_P D vwCl (oh_W 35 a K123) H → va_D A (oh_W 35 a K123) → va_S A s.heap H locs → lv_has ls 1 [(0, .ref (a 5))] → W p l e ({ frames := 0, cells := 0, slots := 0, locals := 0 }) s m (([.ref (a 5)] : List Value).toArray) below meth c H locs 0 0 Q (F0 m 123 ls []) := by
                intro d
                induction d using Nat.strongRecOn with
                | ind d ih_123 =>
                intro K123  H locs ls hd_123 hv_123 hT hF hLF_123 hP hD hS hl
                have t_263 := hT
                refine lv_aload_n hx hb dX4_advance_123 rfl (lv_at hl 0 rfl) ?_
                refine va_get (D := D) (ci := 4) (v := .int (gi (K123 5) 5)) (C := RX4) (T := TX4) (N := 6) hx hb htg ig_4 hown hK hP 5 (oh_wg (by decide) (sX_5 hT)) rfl 5 (by decide) (htg _ q_224) (fun _ h9 => h9) rfl dX4_advance_124 ?_
                refine lv_aload_n hx hb dX4_advance_127 rfl (lv_at hl 0 rfl) ?_
                refine va_get (D := D) (ci := 4) (v := .int (gi (K123 5) 1)) (C := RX4) (T := TX4) (N := 6) hx hb htg ig_4 hown hK hP 5 (oh_wg (by decide) (sX_5 hT)) rfl 1 (by decide) (htg _ q_218) (fun _ h9 => h9) rfl dX4_advance_128 ?_
                refine lv_icmp_ge (tgt := 175) hx hb dX4_advance_131 (by decide) (fun (c_264 : (gi (K123 5) 1) ≤ (gi (K123 5) 5)) => ?_) (fun (c_264 : ¬ ((gi (K123 5) 1) ≤ (gi (K123 5) 5))) => ?_)
                · refine lv_aload_n hx hb dX4_advance_175 rfl (lv_at hl 0 rfl) ?_
                  refine va_get (D := D) (ci := 4) (v := .int (gi (K123 5) 5)) (C := RX4) (T := TX4) (N := 6) hx hb htg ig_4 hown hK hP 5 (oh_wg (by decide) (sX_5 hT)) rfl 5 (by decide) (htg _ q_224) (fun _ h9 => h9) rfl dX4_advance_176 ?_
                  refine lv_aload_n hx hb dX4_advance_179 rfl (lv_at hl 0 rfl) ?_
                  refine va_get (D := D) (ci := 4) (v := .int (gi (K123 5) 4)) (C := RX4) (T := TX4) (N := 6) hx hb htg ig_4 hown hK hP 5 (oh_wg (by decide) (sX_5 hT)) rfl 4 (by decide) (htg _ q_223) (fun _ h9 => h9) rfl dX4_advance_180 ?_
                  refine lv_icmp_le (tgt := 192) hx hb dX4_advance_183 (by decide) (fun (c_265 : (gi (K123 5) 5) ≤ (gi (K123 5) 4)) => ?_) (fun (c_265 : ¬ ((gi (K123 5) 5) ≤ (gi (K123 5) 4))) => ?_)
                  · refine lv_aload_n hx hb dX4_advance_192 rfl (lv_at hl 0 rfl) ?_
                    refine va_get (D := D) (ci := 4) (v := .int (gi (K123 5) 4)) (C := RX4) (T := TX4) (N := 6) hx hb htg ig_4 hown hK hP 5 (oh_wg (by decide) (sX_5 hT)) rfl 4 (by decide) (htg _ q_223) (fun _ h9 => h9) rfl dX4_advance_193 ?_
                    refine lv_aload_n hx hb dX4_advance_196 rfl (lv_at hl 0 rfl) ?_
                    refine va_get (D := D) (ci := 4) (v := .int (gi (K123 5) 1)) (C := RX4) (T := TX4) (N := 6) hx hb htg ig_4 hown hK hP 5 (oh_wg (by decide) (sX_5 hT)) rfl 1 (by decide) (htg _ q_218) (fun _ h9 => h9) rfl dX4_advance_197 ?_
                    refine lv_icmp_lt (tgt := 209) hx hb dX4_advance_200 (by decide) (fun (c_266 : (gi (K123 5) 4) < (gi (K123 5) 1)) => ?_) (fun (c_266 : ¬ ((gi (K123 5) 4) < (gi (K123 5) 1))) => ?_)
                    · refine lv_aload_n hx hb dX4_advance_209 rfl (lv_at hl 0 rfl) ?_
                      refine lv_aload_n hx hb dX4_advance_210 rfl (lv_at hl 0 rfl) ?_
                      refine va_get (D := D) (ci := 4) (v := .ref (a 32)) (C := RX4) (T := TX4) (N := 6) hx hb htg ig_4 hown hK hP 5 (oh_wg (by decide) (sX_5 hT)) rfl 0 (by decide) (htg _ q_217) (fun _ h9 => h9) rfl dX4_advance_211 ?_
                      refine lv_aload_n hx hb dX4_advance_214 rfl (lv_at hl 0 rfl) ?_
                      refine va_get (D := D) (ci := 4) (v := .int (gi (K123 5) 4)) (C := RX4) (T := TX4) (N := 6) hx hb htg ig_4 hown hK hP 5 (oh_wg (by decide) (sX_5 hT)) rfl 4 (by decide) (htg _ q_223) (fun _ h9 => h9) rfl dX4_advance_215 ?_
                      have n_267 : vp_in (gi (K123 5) 4) 250 := (rg_in (rn_ltu (u' := 249) c_266 (rn_lel c_265 (rn_lel c_264 (rn_ltl (l' := 1) c_266 (fX_5_4 t_263) (fX_5_1 t_263) (by decide)) (fX_5_5 t_263)) (fX_5_4 t_263)) (fX_5_1 t_263) (by decide)) (by decide))
                      refine th_iald hx hb hK hP 32 (by decide) (Eq.trans (Eq.trans (hLF_123.1 32 rfl (by decide)) (Eq.trans (hLF_54.1 32 rfl (by decide)) (Eq.trans (th_un e_258 (by decide)) (Eq.trans (hLF_8.1 32 rfl (by decide)) (th_un e_2 (by decide)))))) (sX_32 hT0)) n_267 dX4_advance_218 ?_
                      refine lv_bipush (v := 59) hx hb dX4_advance_219 (by decide) ?_
                      refine lv_icmp_ne (tgt := 228) hx hb dX4_advance_221 (by decide) (fun (c_268 : ¬ ((ga (C 32) (gi (K123 5) 4).toNatClampNeg) = 59)) => ?_) (fun (c_268 : (ga (C 32) (gi (K123 5) 4).toNatClampNeg) = 59) => ?_)
                      · refine lv_iconst (v := 4) hx hb dX4_advance_228 (by decide) ?_
                        refine th_put (Tp := TyX a E) (Rl := fr [(5, 6)] [] C) (ci := 4) (v := .int 4) (ty := .int) (CC := RX4) (T := TX4) (N := 6) hx hb htg ig_4 tyX4 tyX4_ok nmX4 hown hK hP hD hS 5 (by decide) (sX_5 hT) rfl 3 (by decide) (htg _ q_222) (fun _ h9 => h9) rfl (by decide +kernel) rfl rfl (Nat.le_of_ble_eq_true rfl) (hT.up 5 ⟨rfl, (fX_5_1 hT), (fX_5_2 hT), (fX_5_4 hT), (fX_5_5 hT)⟩) (fr_st hF (by decide) (by decide)) dX4_advance_229 (fun C_269 H locs e_270 hT hF hP hD hS => ?_)
                        have t_271 := hT
                        refine lv_aload_n hx hb dX4_advance_232 rfl (lv_at hl 0 rfl) ?_
                        refine lv_aload_n hx hb dX4_advance_233 rfl (lv_at hl 0 rfl) ?_
                        refine va_get (D := D) (ci := 4) (v := .int (gi (K123 5) 4)) (C := RX4) (T := TX4) (N := 6) hx hb htg ig_4 hown hK hP 5 (oh_wg (by decide) (sX_5 hT)) rfl 4 (by decide) (htg _ q_223) (fun _ h9 => h9) (oh_fv (c := C_269 5) (j := 4) rfl (show gi (C_269 5) 4 = gi (K123 5) 4 by rw [e_270]; rfl)) dX4_advance_234 ?_
                        refine lv_iconst (v := 1) hx hb dX4_advance_237 (by decide) ?_
                        refine lv_iadd hx hb dX4_advance_238 ?_
                        refine th_put (Tp := TyX a E) (Rl := fr [(5, 6)] [] C) (ci := 4) (v := .int ((gi (K123 5) 4) + 1)) (ty := .int) (CC := RX4) (T := TX4) (N := 6) hx hb htg ig_4 tyX4 tyX4_ok nmX4 hown hK hP hD hS 5 (by decide) (sX_5 hT) rfl 5 (by decide) (htg _ q_224) (fun _ h9 => h9) rfl (by decide +kernel) rfl rfl (Nat.le_of_ble_eq_true rfl) (hT.up 5 ⟨rfl, (fX_5_1 hT), (fX_5_2 hT), (fX_5_4 hT), (rg_w (rg_add (lo := 2) (hi := 250) (rn_ltu (u' := 249) c_266 (rn_lel c_265 (rn_lel c_264 (rn_ltl (l' := 1) c_266 (fX_5_4 t_263) (fX_5_1 t_263) (by decide)) (fX_5_5 t_263)) (fX_5_4 t_263)) (fX_5_1 t_263) (by decide)) (rg_c (v := 1) (lo := 1) (hi := 1) (by decide)) (by decide)) (by decide))⟩) (fr_st hF (by decide) (by decide)) dX4_advance_239 (fun C_272 H locs e_273 hT hF hP hD hS => ?_)
                        have t_274 := hT
                        rw [hQ]
                        exact W.vret hx hb hr (fun t ht hW => ⟨⟨C_272, rfl, ⟨hT, hF, (Eq.trans (Eq.trans (show gi (C_272 5) 2 = gi (C_269 5) 2 by rw [e_273]; rfl) (show gi (C_269 5) 2 = gi (K123 5) 2 by rw [e_270]; rfl)) hv_123)⟩, ⟨by rw [ht]; exact hP, hD⟩⟩, hS.F ht⟩) hS.2.2 dX4_advance_242
                      · refine lv_iconst (v := 3) hx hb dX4_advance_224 (by decide) ?_
                        refine lv_goto (tgt := 229) hx hb dX4_advance_225 (by decide) ?_
                        refine th_put (Tp := TyX a E) (Rl := fr [(5, 6)] [] C) (ci := 4) (v := .int 3) (ty := .int) (CC := RX4) (T := TX4) (N := 6) hx hb htg ig_4 tyX4 tyX4_ok nmX4 hown hK hP hD hS 5 (by decide) (sX_5 hT) rfl 3 (by decide) (htg _ q_222) (fun _ h9 => h9) rfl (by decide +kernel) rfl rfl (Nat.le_of_ble_eq_true rfl) (hT.up 5 ⟨rfl, (fX_5_1 hT), (fX_5_2 hT), (fX_5_4 hT), (fX_5_5 hT)⟩) (fr_st hF (by decide) (by decide)) dX4_advance_229 (fun C_275 H locs e_276 hT hF hP hD hS => ?_)
                        have t_277 := hT
                        refine lv_aload_n hx hb dX4_advance_232 rfl (lv_at hl 0 rfl) ?_
                        refine lv_aload_n hx hb dX4_advance_233 rfl (lv_at hl 0 rfl) ?_
                        refine va_get (D := D) (ci := 4) (v := .int (gi (K123 5) 4)) (C := RX4) (T := TX4) (N := 6) hx hb htg ig_4 hown hK hP 5 (oh_wg (by decide) (sX_5 hT)) rfl 4 (by decide) (htg _ q_223) (fun _ h9 => h9) (oh_fv (c := C_275 5) (j := 4) rfl (show gi (C_275 5) 4 = gi (K123 5) 4 by rw [e_276]; rfl)) dX4_advance_234 ?_
                        refine lv_iconst (v := 1) hx hb dX4_advance_237 (by decide) ?_
                        refine lv_iadd hx hb dX4_advance_238 ?_
                        refine th_put (Tp := TyX a E) (Rl := fr [(5, 6)] [] C) (ci := 4) (v := .int ((gi (K123 5) 4) + 1)) (ty := .int) (CC := RX4) (T := TX4) (N := 6) hx hb htg ig_4 tyX4 tyX4_ok nmX4 hown hK hP hD hS 5 (by decide) (sX_5 hT) rfl 5 (by decide) (htg _ q_224) (fun _ h9 => h9) rfl (by decide +kernel) rfl rfl (Nat.le_of_ble_eq_true rfl) (hT.up 5 ⟨rfl, (fX_5_1 hT), (fX_5_2 hT), (fX_5_4 hT), (rg_w (rg_add (lo := 2) (hi := 250) (rn_ltu (u' := 249) c_266 (rn_lel c_265 (rn_lel c_264 (rn_ltl (l' := 1) c_266 (fX_5_4 t_263) (fX_5_1 t_263) (by decide)) (fX_5_5 t_263)) (fX_5_4 t_263)) (fX_5_1 t_263) (by decide)) (rg_c (v := 1) (lo := 1) (hi := 1) (by decide)) (by decide)) (by decide))⟩) (fr_st hF (by decide) (by decide)) dX4_advance_239 (fun C_278 H locs e_279 hT hF hP hD hS => ?_)
                        have t_280 := hT
                        rw [hQ]
                        exact W.vret hx hb hr (fun t ht hW => ⟨⟨C_278, rfl, ⟨hT, hF, (Eq.trans (Eq.trans (show gi (C_278 5) 2 = gi (C_275 5) 2 by rw [e_279]; rfl) (show gi (C_275 5) 2 = gi (K123 5) 2 by rw [e_276]; rfl)) hv_123)⟩, ⟨by rw [ht]; exact hP, hD⟩⟩, hS.F ht⟩) hS.2.2 dX4_advance_242
                    · refine lv_aload_n hx hb dX4_advance_203 rfl (lv_at hl 0 rfl) ?_
                      refine lv_iconst (v := 0) hx hb dX4_advance_204 (by decide) ?_
                      refine th_put (Tp := TyX a E) (Rl := fr [(5, 6)] [] C) (ci := 4) (v := .int 0) (ty := .int) (CC := RX4) (T := TX4) (N := 6) hx hb htg ig_4 tyX4 tyX4_ok nmX4 hown hK hP hD hS 5 (by decide) (sX_5 hT) rfl 3 (by decide) (htg _ q_222) (fun _ h9 => h9) rfl (by decide +kernel) rfl rfl (Nat.le_of_ble_eq_true rfl) (hT.up 5 ⟨rfl, (fX_5_1 hT), (fX_5_2 hT), (fX_5_4 hT), (fX_5_5 hT)⟩) (fr_st hF (by decide) (by decide)) dX4_advance_205 (fun C_281 H locs e_282 hT hF hP hD hS => ?_)
                      have t_283 := hT
                      rw [hQ]
                      exact W.vret hx hb hr (fun t ht hW => ⟨⟨C_281, rfl, ⟨hT, hF, (Eq.trans (show gi (C_281 5) 2 = gi (K123 5) 2 by rw [e_282]; rfl) hv_123)⟩, ⟨by rw [ht]; exact hP, hD⟩⟩, hS.F ht⟩) hS.2.2 dX4_advance_208
                  · refine lv_aload_n hx hb dX4_advance_186 rfl (lv_at hl 0 rfl) ?_
                    refine lv_iconst (v := 2) hx hb dX4_advance_187 (by decide) ?_
                    refine th_put (Tp := TyX a E) (Rl := fr [(5, 6)] [] C) (ci := 4) (v := .int 2) (ty := .int) (CC := RX4) (T := TX4) (N := 6) hx hb htg ig_4 tyX4 tyX4_ok nmX4 hown hK hP hD hS 5 (by decide) (sX_5 hT) rfl 3 (by decide) (htg _ q_222) (fun _ h9 => h9) rfl (by decide +kernel) rfl rfl (Nat.le_of_ble_eq_true rfl) (hT.up 5 ⟨rfl, (fX_5_1 hT), (fX_5_2 hT), (fX_5_4 hT), (fX_5_5 hT)⟩) (fr_st hF (by decide) (by decide)) dX4_advance_188 (fun C_284 H locs e_285 hT hF hP hD hS => ?_)
                    have t_286 := hT
                    rw [hQ]
                    exact W.vret hx hb hr (fun t ht hW => ⟨⟨C_284, rfl, ⟨hT, hF, (Eq.trans (show gi (C_284 5) 2 = gi (K123 5) 2 by rw [e_285]; rfl) hv_123)⟩, ⟨by rw [ht]; exact hP, hD⟩⟩, hS.F ht⟩) hS.2.2 dX4_advance_191
                · refine lv_aload_n hx hb dX4_advance_134 rfl (lv_at hl 0 rfl) ?_
                  refine va_get (D := D) (ci := 4) (v := .ref (a 32)) (C := RX4) (T := TX4) (N := 6) hx hb htg ig_4 hown hK hP 5 (oh_wg (by decide) (sX_5 hT)) rfl 0 (by decide) (htg _ q_217) (fun _ h9 => h9) rfl dX4_advance_135 ?_
                  refine lv_aload_n hx hb dX4_advance_138 rfl (lv_at hl 0 rfl) ?_
                  refine va_get (D := D) (ci := 4) (v := .int (gi (K123 5) 5)) (C := RX4) (T := TX4) (N := 6) hx hb htg ig_4 hown hK hP 5 (oh_wg (by decide) (sX_5 hT)) rfl 5 (by decide) (htg _ q_224) (fun _ h9 => h9) rfl dX4_advance_139 ?_
                  have n_287 : vp_in (gi (K123 5) 5) 250 := (rg_in (rn_ltu (u' := 249) (Int32.not_le.mp c_264) (fX_5_5 t_263) (fX_5_1 t_263) (by decide)) (by decide))
                  refine th_iald hx hb hK hP 32 (by decide) (Eq.trans (Eq.trans (hLF_123.1 32 rfl (by decide)) (Eq.trans (hLF_54.1 32 rfl (by decide)) (Eq.trans (th_un e_258 (by decide)) (Eq.trans (hLF_8.1 32 rfl (by decide)) (th_un e_2 (by decide)))))) (sX_32 hT0)) n_287 dX4_advance_142 ?_
                  refine lv_bipush (v := 48) hx hb dX4_advance_143 (by decide) ?_
                  refine lv_icmp_lt (tgt := 175) hx hb dX4_advance_145 (by decide) (fun (c_288 : (ga (C 32) (gi (K123 5) 5).toNatClampNeg) < 48) => ?_) (fun (c_288 : ¬ ((ga (C 32) (gi (K123 5) 5).toNatClampNeg) < 48)) => ?_)
                  · refine lv_aload_n hx hb dX4_advance_175 rfl (lv_at hl 0 rfl) ?_
                    refine va_get (D := D) (ci := 4) (v := .int (gi (K123 5) 5)) (C := RX4) (T := TX4) (N := 6) hx hb htg ig_4 hown hK hP 5 (oh_wg (by decide) (sX_5 hT)) rfl 5 (by decide) (htg _ q_224) (fun _ h9 => h9) rfl dX4_advance_176 ?_
                    refine lv_aload_n hx hb dX4_advance_179 rfl (lv_at hl 0 rfl) ?_
                    refine va_get (D := D) (ci := 4) (v := .int (gi (K123 5) 4)) (C := RX4) (T := TX4) (N := 6) hx hb htg ig_4 hown hK hP 5 (oh_wg (by decide) (sX_5 hT)) rfl 4 (by decide) (htg _ q_223) (fun _ h9 => h9) rfl dX4_advance_180 ?_
                    refine lv_icmp_le (tgt := 192) hx hb dX4_advance_183 (by decide) (fun (c_289 : (gi (K123 5) 5) ≤ (gi (K123 5) 4)) => ?_) (fun (c_289 : ¬ ((gi (K123 5) 5) ≤ (gi (K123 5) 4))) => ?_)
                    · refine lv_aload_n hx hb dX4_advance_192 rfl (lv_at hl 0 rfl) ?_
                      refine va_get (D := D) (ci := 4) (v := .int (gi (K123 5) 4)) (C := RX4) (T := TX4) (N := 6) hx hb htg ig_4 hown hK hP 5 (oh_wg (by decide) (sX_5 hT)) rfl 4 (by decide) (htg _ q_223) (fun _ h9 => h9) rfl dX4_advance_193 ?_
                      refine lv_aload_n hx hb dX4_advance_196 rfl (lv_at hl 0 rfl) ?_
                      refine va_get (D := D) (ci := 4) (v := .int (gi (K123 5) 1)) (C := RX4) (T := TX4) (N := 6) hx hb htg ig_4 hown hK hP 5 (oh_wg (by decide) (sX_5 hT)) rfl 1 (by decide) (htg _ q_218) (fun _ h9 => h9) rfl dX4_advance_197 ?_
                      refine lv_icmp_lt (tgt := 209) hx hb dX4_advance_200 (by decide) (fun (c_290 : (gi (K123 5) 4) < (gi (K123 5) 1)) => ?_) (fun (c_290 : ¬ ((gi (K123 5) 4) < (gi (K123 5) 1))) => ?_)
                      · refine lv_aload_n hx hb dX4_advance_209 rfl (lv_at hl 0 rfl) ?_
                        refine lv_aload_n hx hb dX4_advance_210 rfl (lv_at hl 0 rfl) ?_
                        refine va_get (D := D) (ci := 4) (v := .ref (a 32)) (C := RX4) (T := TX4) (N := 6) hx hb htg ig_4 hown hK hP 5 (oh_wg (by decide) (sX_5 hT)) rfl 0 (by decide) (htg _ q_217) (fun _ h9 => h9) rfl dX4_advance_211 ?_
                        refine lv_aload_n hx hb dX4_advance_214 rfl (lv_at hl 0 rfl) ?_
                        refine va_get (D := D) (ci := 4) (v := .int (gi (K123 5) 4)) (C := RX4) (T := TX4) (N := 6) hx hb htg ig_4 hown hK hP 5 (oh_wg (by decide) (sX_5 hT)) rfl 4 (by decide) (htg _ q_223) (fun _ h9 => h9) rfl dX4_advance_215 ?_
                        have n_291 : vp_in (gi (K123 5) 4) 250 := (rg_in (rn_ltu (u' := 249) c_290 (fX_5_4 t_263) (rn_ltl (l' := 1) (Int32.not_le.mp c_264) (fX_5_5 t_263) (fX_5_1 t_263) (by decide)) (by decide)) (by decide))
                        refine th_iald hx hb hK hP 32 (by decide) (Eq.trans (Eq.trans (hLF_123.1 32 rfl (by decide)) (Eq.trans (hLF_54.1 32 rfl (by decide)) (Eq.trans (th_un e_258 (by decide)) (Eq.trans (hLF_8.1 32 rfl (by decide)) (th_un e_2 (by decide)))))) (sX_32 hT0)) n_291 dX4_advance_218 ?_
                        refine lv_bipush (v := 59) hx hb dX4_advance_219 (by decide) ?_
                        refine lv_icmp_ne (tgt := 228) hx hb dX4_advance_221 (by decide) (fun (c_292 : ¬ ((ga (C 32) (gi (K123 5) 4).toNatClampNeg) = 59)) => ?_) (fun (c_292 : (ga (C 32) (gi (K123 5) 4).toNatClampNeg) = 59) => ?_)
                        · refine lv_iconst (v := 4) hx hb dX4_advance_228 (by decide) ?_
                          refine th_put (Tp := TyX a E) (Rl := fr [(5, 6)] [] C) (ci := 4) (v := .int 4) (ty := .int) (CC := RX4) (T := TX4) (N := 6) hx hb htg ig_4 tyX4 tyX4_ok nmX4 hown hK hP hD hS 5 (by decide) (sX_5 hT) rfl 3 (by decide) (htg _ q_222) (fun _ h9 => h9) rfl (by decide +kernel) rfl rfl (Nat.le_of_ble_eq_true rfl) (hT.up 5 ⟨rfl, (fX_5_1 hT), (fX_5_2 hT), (fX_5_4 hT), (fX_5_5 hT)⟩) (fr_st hF (by decide) (by decide)) dX4_advance_229 (fun C_293 H locs e_294 hT hF hP hD hS => ?_)
                          have t_295 := hT
                          refine lv_aload_n hx hb dX4_advance_232 rfl (lv_at hl 0 rfl) ?_
                          refine lv_aload_n hx hb dX4_advance_233 rfl (lv_at hl 0 rfl) ?_
                          refine va_get (D := D) (ci := 4) (v := .int (gi (K123 5) 4)) (C := RX4) (T := TX4) (N := 6) hx hb htg ig_4 hown hK hP 5 (oh_wg (by decide) (sX_5 hT)) rfl 4 (by decide) (htg _ q_223) (fun _ h9 => h9) (oh_fv (c := C_293 5) (j := 4) rfl (show gi (C_293 5) 4 = gi (K123 5) 4 by rw [e_294]; rfl)) dX4_advance_234 ?_
                          refine lv_iconst (v := 1) hx hb dX4_advance_237 (by decide) ?_
                          refine lv_iadd hx hb dX4_advance_238 ?_
                          refine th_put (Tp := TyX a E) (Rl := fr [(5, 6)] [] C) (ci := 4) (v := .int ((gi (K123 5) 4) + 1)) (ty := .int) (CC := RX4) (T := TX4) (N := 6) hx hb htg ig_4 tyX4 tyX4_ok nmX4 hown hK hP hD hS 5 (by decide) (sX_5 hT) rfl 5 (by decide) (htg _ q_224) (fun _ h9 => h9) rfl (by decide +kernel) rfl rfl (Nat.le_of_ble_eq_true rfl) (hT.up 5 ⟨rfl, (fX_5_1 hT), (fX_5_2 hT), (fX_5_4 hT), (rg_w (rg_add (lo := 1) (hi := 250) (rn_ltu (u' := 249) c_290 (fX_5_4 t_263) (rn_ltl (l' := 1) (Int32.not_le.mp c_264) (fX_5_5 t_263) (fX_5_1 t_263) (by decide)) (by decide)) (rg_c (v := 1) (lo := 1) (hi := 1) (by decide)) (by decide)) (by decide))⟩) (fr_st hF (by decide) (by decide)) dX4_advance_239 (fun C_296 H locs e_297 hT hF hP hD hS => ?_)
                          have t_298 := hT
                          rw [hQ]
                          exact W.vret hx hb hr (fun t ht hW => ⟨⟨C_296, rfl, ⟨hT, hF, (Eq.trans (Eq.trans (show gi (C_296 5) 2 = gi (C_293 5) 2 by rw [e_297]; rfl) (show gi (C_293 5) 2 = gi (K123 5) 2 by rw [e_294]; rfl)) hv_123)⟩, ⟨by rw [ht]; exact hP, hD⟩⟩, hS.F ht⟩) hS.2.2 dX4_advance_242
                        · refine lv_iconst (v := 3) hx hb dX4_advance_224 (by decide) ?_
                          refine lv_goto (tgt := 229) hx hb dX4_advance_225 (by decide) ?_
                          refine th_put (Tp := TyX a E) (Rl := fr [(5, 6)] [] C) (ci := 4) (v := .int 3) (ty := .int) (CC := RX4) (T := TX4) (N := 6) hx hb htg ig_4 tyX4 tyX4_ok nmX4 hown hK hP hD hS 5 (by decide) (sX_5 hT) rfl 3 (by decide) (htg _ q_222) (fun _ h9 => h9) rfl (by decide +kernel) rfl rfl (Nat.le_of_ble_eq_true rfl) (hT.up 5 ⟨rfl, (fX_5_1 hT), (fX_5_2 hT), (fX_5_4 hT), (fX_5_5 hT)⟩) (fr_st hF (by decide) (by decide)) dX4_advance_229 (fun C_299 H locs e_300 hT hF hP hD hS => ?_)
                          have t_301 := hT
                          refine lv_aload_n hx hb dX4_advance_232 rfl (lv_at hl 0 rfl) ?_
                          refine lv_aload_n hx hb dX4_advance_233 rfl (lv_at hl 0 rfl) ?_
                          refine va_get (D := D) (ci := 4) (v := .int (gi (K123 5) 4)) (C := RX4) (T := TX4) (N := 6) hx hb htg ig_4 hown hK hP 5 (oh_wg (by decide) (sX_5 hT)) rfl 4 (by decide) (htg _ q_223) (fun _ h9 => h9) (oh_fv (c := C_299 5) (j := 4) rfl (show gi (C_299 5) 4 = gi (K123 5) 4 by rw [e_300]; rfl)) dX4_advance_234 ?_
                          refine lv_iconst (v := 1) hx hb dX4_advance_237 (by decide) ?_
                          refine lv_iadd hx hb dX4_advance_238 ?_
                          refine th_put (Tp := TyX a E) (Rl := fr [(5, 6)] [] C) (ci := 4) (v := .int ((gi (K123 5) 4) + 1)) (ty := .int) (CC := RX4) (T := TX4) (N := 6) hx hb htg ig_4 tyX4 tyX4_ok nmX4 hown hK hP hD hS 5 (by decide) (sX_5 hT) rfl 5 (by decide) (htg _ q_224) (fun _ h9 => h9) rfl (by decide +kernel) rfl rfl (Nat.le_of_ble_eq_true rfl) (hT.up 5 ⟨rfl, (fX_5_1 hT), (fX_5_2 hT), (fX_5_4 hT), (rg_w (rg_add (lo := 1) (hi := 250) (rn_ltu (u' := 249) c_290 (fX_5_4 t_263) (rn_ltl (l' := 1) (Int32.not_le.mp c_264) (fX_5_5 t_263) (fX_5_1 t_263) (by decide)) (by decide)) (rg_c (v := 1) (lo := 1) (hi := 1) (by decide)) (by decide)) (by decide))⟩) (fr_st hF (by decide) (by decide)) dX4_advance_239 (fun C_302 H locs e_303 hT hF hP hD hS => ?_)
                          have t_304 := hT
                          rw [hQ]
                          exact W.vret hx hb hr (fun t ht hW => ⟨⟨C_302, rfl, ⟨hT, hF, (Eq.trans (Eq.trans (show gi (C_302 5) 2 = gi (C_299 5) 2 by rw [e_303]; rfl) (show gi (C_299 5) 2 = gi (K123 5) 2 by rw [e_300]; rfl)) hv_123)⟩, ⟨by rw [ht]; exact hP, hD⟩⟩, hS.F ht⟩) hS.2.2 dX4_advance_242
                      · refine lv_aload_n hx hb dX4_advance_203 rfl (lv_at hl 0 rfl) ?_
                        refine lv_iconst (v := 0) hx hb dX4_advance_204 (by decide) ?_
                        refine th_put (Tp := TyX a E) (Rl := fr [(5, 6)] [] C) (ci := 4) (v := .int 0) (ty := .int) (CC := RX4) (T := TX4) (N := 6) hx hb htg ig_4 tyX4 tyX4_ok nmX4 hown hK hP hD hS 5 (by decide) (sX_5 hT) rfl 3 (by decide) (htg _ q_222) (fun _ h9 => h9) rfl (by decide +kernel) rfl rfl (Nat.le_of_ble_eq_true rfl) (hT.up 5 ⟨rfl, (fX_5_1 hT), (fX_5_2 hT), (fX_5_4 hT), (fX_5_5 hT)⟩) (fr_st hF (by decide) (by decide)) dX4_advance_205 (fun C_305 H locs e_306 hT hF hP hD hS => ?_)
                        have t_307 := hT
                        rw [hQ]
                        exact W.vret hx hb hr (fun t ht hW => ⟨⟨C_305, rfl, ⟨hT, hF, (Eq.trans (show gi (C_305 5) 2 = gi (K123 5) 2 by rw [e_306]; rfl) hv_123)⟩, ⟨by rw [ht]; exact hP, hD⟩⟩, hS.F ht⟩) hS.2.2 dX4_advance_208
                    · refine lv_aload_n hx hb dX4_advance_186 rfl (lv_at hl 0 rfl) ?_
                      refine lv_iconst (v := 2) hx hb dX4_advance_187 (by decide) ?_
                      refine th_put (Tp := TyX a E) (Rl := fr [(5, 6)] [] C) (ci := 4) (v := .int 2) (ty := .int) (CC := RX4) (T := TX4) (N := 6) hx hb htg ig_4 tyX4 tyX4_ok nmX4 hown hK hP hD hS 5 (by decide) (sX_5 hT) rfl 3 (by decide) (htg _ q_222) (fun _ h9 => h9) rfl (by decide +kernel) rfl rfl (Nat.le_of_ble_eq_true rfl) (hT.up 5 ⟨rfl, (fX_5_1 hT), (fX_5_2 hT), (fX_5_4 hT), (fX_5_5 hT)⟩) (fr_st hF (by decide) (by decide)) dX4_advance_188 (fun C_308 H locs e_309 hT hF hP hD hS => ?_)
                      have t_310 := hT
                      rw [hQ]
                      exact W.vret hx hb hr (fun t ht hW => ⟨⟨C_308, rfl, ⟨hT, hF, (Eq.trans (show gi (C_308 5) 2 = gi (K123 5) 2 by rw [e_309]; rfl) hv_123)⟩, ⟨by rw [ht]; exact hP, hD⟩⟩, hS.F ht⟩) hS.2.2 dX4_advance_191
                  · refine lv_aload_n hx hb dX4_advance_148 rfl (lv_at hl 0 rfl) ?_
                    refine va_get (D := D) (ci := 4) (v := .ref (a 32)) (C := RX4) (T := TX4) (N := 6) hx hb htg ig_4 hown hK hP 5 (oh_wg (by decide) (sX_5 hT)) rfl 0 (by decide) (htg _ q_217) (fun _ h9 => h9) rfl dX4_advance_149 ?_
                    refine lv_aload_n hx hb dX4_advance_152 rfl (lv_at hl 0 rfl) ?_
                    refine va_get (D := D) (ci := 4) (v := .int (gi (K123 5) 5)) (C := RX4) (T := TX4) (N := 6) hx hb htg ig_4 hown hK hP 5 (oh_wg (by decide) (sX_5 hT)) rfl 5 (by decide) (htg _ q_224) (fun _ h9 => h9) rfl dX4_advance_153 ?_
                    have n_311 : vp_in (gi (K123 5) 5) 250 := (rg_in (rn_ltu (u' := 249) (Int32.not_le.mp c_264) (fX_5_5 t_263) (fX_5_1 t_263) (by decide)) (by decide))
                    refine th_iald hx hb hK hP 32 (by decide) (Eq.trans (Eq.trans (hLF_123.1 32 rfl (by decide)) (Eq.trans (hLF_54.1 32 rfl (by decide)) (Eq.trans (th_un e_258 (by decide)) (Eq.trans (hLF_8.1 32 rfl (by decide)) (th_un e_2 (by decide)))))) (sX_32 hT0)) n_311 dX4_advance_156 ?_
                    refine lv_bipush (v := 57) hx hb dX4_advance_157 (by decide) ?_
                    refine lv_icmp_gt (tgt := 175) hx hb dX4_advance_159 (by decide) (fun (c_312 : (57 : Int32) < (ga (C 32) (gi (K123 5) 5).toNatClampNeg)) => ?_) (fun (c_312 : ¬ ((57 : Int32) < (ga (C 32) (gi (K123 5) 5).toNatClampNeg))) => ?_)
                    · refine lv_aload_n hx hb dX4_advance_175 rfl (lv_at hl 0 rfl) ?_
                      refine va_get (D := D) (ci := 4) (v := .int (gi (K123 5) 5)) (C := RX4) (T := TX4) (N := 6) hx hb htg ig_4 hown hK hP 5 (oh_wg (by decide) (sX_5 hT)) rfl 5 (by decide) (htg _ q_224) (fun _ h9 => h9) rfl dX4_advance_176 ?_
                      refine lv_aload_n hx hb dX4_advance_179 rfl (lv_at hl 0 rfl) ?_
                      refine va_get (D := D) (ci := 4) (v := .int (gi (K123 5) 4)) (C := RX4) (T := TX4) (N := 6) hx hb htg ig_4 hown hK hP 5 (oh_wg (by decide) (sX_5 hT)) rfl 4 (by decide) (htg _ q_223) (fun _ h9 => h9) rfl dX4_advance_180 ?_
                      refine lv_icmp_le (tgt := 192) hx hb dX4_advance_183 (by decide) (fun (c_313 : (gi (K123 5) 5) ≤ (gi (K123 5) 4)) => ?_) (fun (c_313 : ¬ ((gi (K123 5) 5) ≤ (gi (K123 5) 4))) => ?_)
                      · refine lv_aload_n hx hb dX4_advance_192 rfl (lv_at hl 0 rfl) ?_
                        refine va_get (D := D) (ci := 4) (v := .int (gi (K123 5) 4)) (C := RX4) (T := TX4) (N := 6) hx hb htg ig_4 hown hK hP 5 (oh_wg (by decide) (sX_5 hT)) rfl 4 (by decide) (htg _ q_223) (fun _ h9 => h9) rfl dX4_advance_193 ?_
                        refine lv_aload_n hx hb dX4_advance_196 rfl (lv_at hl 0 rfl) ?_
                        refine va_get (D := D) (ci := 4) (v := .int (gi (K123 5) 1)) (C := RX4) (T := TX4) (N := 6) hx hb htg ig_4 hown hK hP 5 (oh_wg (by decide) (sX_5 hT)) rfl 1 (by decide) (htg _ q_218) (fun _ h9 => h9) rfl dX4_advance_197 ?_
                        refine lv_icmp_lt (tgt := 209) hx hb dX4_advance_200 (by decide) (fun (c_314 : (gi (K123 5) 4) < (gi (K123 5) 1)) => ?_) (fun (c_314 : ¬ ((gi (K123 5) 4) < (gi (K123 5) 1))) => ?_)
                        · refine lv_aload_n hx hb dX4_advance_209 rfl (lv_at hl 0 rfl) ?_
                          refine lv_aload_n hx hb dX4_advance_210 rfl (lv_at hl 0 rfl) ?_
                          refine va_get (D := D) (ci := 4) (v := .ref (a 32)) (C := RX4) (T := TX4) (N := 6) hx hb htg ig_4 hown hK hP 5 (oh_wg (by decide) (sX_5 hT)) rfl 0 (by decide) (htg _ q_217) (fun _ h9 => h9) rfl dX4_advance_211 ?_
                          refine lv_aload_n hx hb dX4_advance_214 rfl (lv_at hl 0 rfl) ?_
                          refine va_get (D := D) (ci := 4) (v := .int (gi (K123 5) 4)) (C := RX4) (T := TX4) (N := 6) hx hb htg ig_4 hown hK hP 5 (oh_wg (by decide) (sX_5 hT)) rfl 4 (by decide) (htg _ q_223) (fun _ h9 => h9) rfl dX4_advance_215 ?_
                          have n_315 : vp_in (gi (K123 5) 4) 250 := (rg_in (rn_ltu (u' := 249) c_314 (fX_5_4 t_263) (rn_ltl (l' := 1) (Int32.not_le.mp c_264) (fX_5_5 t_263) (fX_5_1 t_263) (by decide)) (by decide)) (by decide))
                          refine th_iald hx hb hK hP 32 (by decide) (Eq.trans (Eq.trans (hLF_123.1 32 rfl (by decide)) (Eq.trans (hLF_54.1 32 rfl (by decide)) (Eq.trans (th_un e_258 (by decide)) (Eq.trans (hLF_8.1 32 rfl (by decide)) (th_un e_2 (by decide)))))) (sX_32 hT0)) n_315 dX4_advance_218 ?_
                          refine lv_bipush (v := 59) hx hb dX4_advance_219 (by decide) ?_
                          refine lv_icmp_ne (tgt := 228) hx hb dX4_advance_221 (by decide) (fun (c_316 : ¬ ((ga (C 32) (gi (K123 5) 4).toNatClampNeg) = 59)) => ?_) (fun (c_316 : (ga (C 32) (gi (K123 5) 4).toNatClampNeg) = 59) => ?_)
                          · refine lv_iconst (v := 4) hx hb dX4_advance_228 (by decide) ?_
                            refine th_put (Tp := TyX a E) (Rl := fr [(5, 6)] [] C) (ci := 4) (v := .int 4) (ty := .int) (CC := RX4) (T := TX4) (N := 6) hx hb htg ig_4 tyX4 tyX4_ok nmX4 hown hK hP hD hS 5 (by decide) (sX_5 hT) rfl 3 (by decide) (htg _ q_222) (fun _ h9 => h9) rfl (by decide +kernel) rfl rfl (Nat.le_of_ble_eq_true rfl) (hT.up 5 ⟨rfl, (fX_5_1 hT), (fX_5_2 hT), (fX_5_4 hT), (fX_5_5 hT)⟩) (fr_st hF (by decide) (by decide)) dX4_advance_229 (fun C_317 H locs e_318 hT hF hP hD hS => ?_)
                            have t_319 := hT
                            refine lv_aload_n hx hb dX4_advance_232 rfl (lv_at hl 0 rfl) ?_
                            refine lv_aload_n hx hb dX4_advance_233 rfl (lv_at hl 0 rfl) ?_
                            refine va_get (D := D) (ci := 4) (v := .int (gi (K123 5) 4)) (C := RX4) (T := TX4) (N := 6) hx hb htg ig_4 hown hK hP 5 (oh_wg (by decide) (sX_5 hT)) rfl 4 (by decide) (htg _ q_223) (fun _ h9 => h9) (oh_fv (c := C_317 5) (j := 4) rfl (show gi (C_317 5) 4 = gi (K123 5) 4 by rw [e_318]; rfl)) dX4_advance_234 ?_
                            refine lv_iconst (v := 1) hx hb dX4_advance_237 (by decide) ?_
                            refine lv_iadd hx hb dX4_advance_238 ?_
                            refine th_put (Tp := TyX a E) (Rl := fr [(5, 6)] [] C) (ci := 4) (v := .int ((gi (K123 5) 4) + 1)) (ty := .int) (CC := RX4) (T := TX4) (N := 6) hx hb htg ig_4 tyX4 tyX4_ok nmX4 hown hK hP hD hS 5 (by decide) (sX_5 hT) rfl 5 (by decide) (htg _ q_224) (fun _ h9 => h9) rfl (by decide +kernel) rfl rfl (Nat.le_of_ble_eq_true rfl) (hT.up 5 ⟨rfl, (fX_5_1 hT), (fX_5_2 hT), (fX_5_4 hT), (rg_w (rg_add (lo := 1) (hi := 250) (rn_ltu (u' := 249) c_314 (fX_5_4 t_263) (rn_ltl (l' := 1) (Int32.not_le.mp c_264) (fX_5_5 t_263) (fX_5_1 t_263) (by decide)) (by decide)) (rg_c (v := 1) (lo := 1) (hi := 1) (by decide)) (by decide)) (by decide))⟩) (fr_st hF (by decide) (by decide)) dX4_advance_239 (fun C_320 H locs e_321 hT hF hP hD hS => ?_)
                            have t_322 := hT
                            rw [hQ]
                            exact W.vret hx hb hr (fun t ht hW => ⟨⟨C_320, rfl, ⟨hT, hF, (Eq.trans (Eq.trans (show gi (C_320 5) 2 = gi (C_317 5) 2 by rw [e_321]; rfl) (show gi (C_317 5) 2 = gi (K123 5) 2 by rw [e_318]; rfl)) hv_123)⟩, ⟨by rw [ht]; exact hP, hD⟩⟩, hS.F ht⟩) hS.2.2 dX4_advance_242
                          · refine lv_iconst (v := 3) hx hb dX4_advance_224 (by decide) ?_
                            refine lv_goto (tgt := 229) hx hb dX4_advance_225 (by decide) ?_
                            refine th_put (Tp := TyX a E) (Rl := fr [(5, 6)] [] C) (ci := 4) (v := .int 3) (ty := .int) (CC := RX4) (T := TX4) (N := 6) hx hb htg ig_4 tyX4 tyX4_ok nmX4 hown hK hP hD hS 5 (by decide) (sX_5 hT) rfl 3 (by decide) (htg _ q_222) (fun _ h9 => h9) rfl (by decide +kernel) rfl rfl (Nat.le_of_ble_eq_true rfl) (hT.up 5 ⟨rfl, (fX_5_1 hT), (fX_5_2 hT), (fX_5_4 hT), (fX_5_5 hT)⟩) (fr_st hF (by decide) (by decide)) dX4_advance_229 (fun C_323 H locs e_324 hT hF hP hD hS => ?_)
                            have t_325 := hT
                            refine lv_aload_n hx hb dX4_advance_232 rfl (lv_at hl 0 rfl) ?_
                            refine lv_aload_n hx hb dX4_advance_233 rfl (lv_at hl 0 rfl) ?_
                            refine va_get (D := D) (ci := 4) (v := .int (gi (K123 5) 4)) (C := RX4) (T := TX4) (N := 6) hx hb htg ig_4 hown hK hP 5 (oh_wg (by decide) (sX_5 hT)) rfl 4 (by decide) (htg _ q_223) (fun _ h9 => h9) (oh_fv (c := C_323 5) (j := 4) rfl (show gi (C_323 5) 4 = gi (K123 5) 4 by rw [e_324]; rfl)) dX4_advance_234 ?_
                            refine lv_iconst (v := 1) hx hb dX4_advance_237 (by decide) ?_
                            refine lv_iadd hx hb dX4_advance_238 ?_
                            refine th_put (Tp := TyX a E) (Rl := fr [(5, 6)] [] C) (ci := 4) (v := .int ((gi (K123 5) 4) + 1)) (ty := .int) (CC := RX4) (T := TX4) (N := 6) hx hb htg ig_4 tyX4 tyX4_ok nmX4 hown hK hP hD hS 5 (by decide) (sX_5 hT) rfl 5 (by decide) (htg _ q_224) (fun _ h9 => h9) rfl (by decide +kernel) rfl rfl (Nat.le_of_ble_eq_true rfl) (hT.up 5 ⟨rfl, (fX_5_1 hT), (fX_5_2 hT), (fX_5_4 hT), (rg_w (rg_add (lo := 1) (hi := 250) (rn_ltu (u' := 249) c_314 (fX_5_4 t_263) (rn_ltl (l' := 1) (Int32.not_le.mp c_264) (fX_5_5 t_263) (fX_5_1 t_263) (by decide)) (by decide)) (rg_c (v := 1) (lo := 1) (hi := 1) (by decide)) (by decide)) (by decide))⟩) (fr_st hF (by decide) (by decide)) dX4_advance_239 (fun C_326 H locs e_327 hT hF hP hD hS => ?_)
                            have t_328 := hT
                            rw [hQ]
                            exact W.vret hx hb hr (fun t ht hW => ⟨⟨C_326, rfl, ⟨hT, hF, (Eq.trans (Eq.trans (show gi (C_326 5) 2 = gi (C_323 5) 2 by rw [e_327]; rfl) (show gi (C_323 5) 2 = gi (K123 5) 2 by rw [e_324]; rfl)) hv_123)⟩, ⟨by rw [ht]; exact hP, hD⟩⟩, hS.F ht⟩) hS.2.2 dX4_advance_242
                        · refine lv_aload_n hx hb dX4_advance_203 rfl (lv_at hl 0 rfl) ?_
                          refine lv_iconst (v := 0) hx hb dX4_advance_204 (by decide) ?_
                          refine th_put (Tp := TyX a E) (Rl := fr [(5, 6)] [] C) (ci := 4) (v := .int 0) (ty := .int) (CC := RX4) (T := TX4) (N := 6) hx hb htg ig_4 tyX4 tyX4_ok nmX4 hown hK hP hD hS 5 (by decide) (sX_5 hT) rfl 3 (by decide) (htg _ q_222) (fun _ h9 => h9) rfl (by decide +kernel) rfl rfl (Nat.le_of_ble_eq_true rfl) (hT.up 5 ⟨rfl, (fX_5_1 hT), (fX_5_2 hT), (fX_5_4 hT), (fX_5_5 hT)⟩) (fr_st hF (by decide) (by decide)) dX4_advance_205 (fun C_329 H locs e_330 hT hF hP hD hS => ?_)
                          have t_331 := hT
                          rw [hQ]
                          exact W.vret hx hb hr (fun t ht hW => ⟨⟨C_329, rfl, ⟨hT, hF, (Eq.trans (show gi (C_329 5) 2 = gi (K123 5) 2 by rw [e_330]; rfl) hv_123)⟩, ⟨by rw [ht]; exact hP, hD⟩⟩, hS.F ht⟩) hS.2.2 dX4_advance_208
                      · refine lv_aload_n hx hb dX4_advance_186 rfl (lv_at hl 0 rfl) ?_
                        refine lv_iconst (v := 2) hx hb dX4_advance_187 (by decide) ?_
                        refine th_put (Tp := TyX a E) (Rl := fr [(5, 6)] [] C) (ci := 4) (v := .int 2) (ty := .int) (CC := RX4) (T := TX4) (N := 6) hx hb htg ig_4 tyX4 tyX4_ok nmX4 hown hK hP hD hS 5 (by decide) (sX_5 hT) rfl 3 (by decide) (htg _ q_222) (fun _ h9 => h9) rfl (by decide +kernel) rfl rfl (Nat.le_of_ble_eq_true rfl) (hT.up 5 ⟨rfl, (fX_5_1 hT), (fX_5_2 hT), (fX_5_4 hT), (fX_5_5 hT)⟩) (fr_st hF (by decide) (by decide)) dX4_advance_188 (fun C_332 H locs e_333 hT hF hP hD hS => ?_)
                        have t_334 := hT
                        rw [hQ]
                        exact W.vret hx hb hr (fun t ht hW => ⟨⟨C_332, rfl, ⟨hT, hF, (Eq.trans (show gi (C_332 5) 2 = gi (K123 5) 2 by rw [e_333]; rfl) hv_123)⟩, ⟨by rw [ht]; exact hP, hD⟩⟩, hS.F ht⟩) hS.2.2 dX4_advance_191
                    · refine lv_aload_n hx hb dX4_advance_162 rfl (lv_at hl 0 rfl) ?_
                      refine lv_dup hx hb dX4_advance_163 rfl ?_
                      refine va_get (D := D) (ci := 4) (v := .int (gi (K123 5) 5)) (C := RX4) (T := TX4) (N := 6) hx hb htg ig_4 hown hK hP 5 (oh_wg (by decide) (sX_5 hT)) rfl 5 (by decide) (htg _ q_224) (fun _ h9 => h9) rfl dX4_advance_164 ?_
                      refine lv_iconst (v := 1) hx hb dX4_advance_167 (by decide) ?_
                      refine lv_iadd hx hb dX4_advance_168 ?_
                      refine th_put (Tp := TyX a E) (Rl := fr [(5, 6)] [] C) (ci := 4) (v := .int ((gi (K123 5) 5) + 1)) (ty := .int) (CC := RX4) (T := TX4) (N := 6) hx hb htg ig_4 tyX4 tyX4_ok nmX4 hown hK hP hD hS 5 (by decide) (sX_5 hT) rfl 5 (by decide) (htg _ q_224) (fun _ h9 => h9) rfl (by decide +kernel) rfl rfl (Nat.le_of_ble_eq_true rfl) (hT.up 5 ⟨rfl, (fX_5_1 hT), (fX_5_2 hT), (fX_5_4 hT), (rg_w (rg_add (lo := 1) (hi := 250) (rn_ltu (u' := 249) (Int32.not_le.mp c_264) (fX_5_5 t_263) (fX_5_1 t_263) (by decide)) (rg_c (v := 1) (lo := 1) (hi := 1) (by decide)) (by decide)) (by decide))⟩) (fr_st hF (by decide) (by decide)) dX4_advance_169 (fun C_335 H locs e_336 hT hF hP hD hS => ?_)
                      have t_337 := hT
                      refine lv_goto (tgt := 123) hx hb dX4_advance_172 (by decide) ?_
                      exact ih_123 _ (hd_123 ▸ (by rw [(show gi (C_335 5) 5 = ((gi (K123 5) 5) + 1) by rw [e_336]; rfl)]; exact mu_up 250 (rn_ltu (u' := 249) (Int32.not_le.mp c_264) (fX_5_5 t_263) (fX_5_1 t_263) (by decide)) (by decide))) C_335  _ _ ls rfl (Eq.trans (show gi (C_335 5) 2 = gi (K123 5) 2 by rw [e_336]; rfl) hv_123) hT hF (fr_ste hLF_123 e_336 (by decide) (by decide)) hP hD hS (lv_sub hl [0] rfl)
              exact L_123 _ K54  _ _ ls rfl (Eq.trans rfl hv_54) hT hF fr_rf hP hD hS (lv_sub hl [0] rfl)
            · refine lv_aload_n hx hb dX4_advance_117 rfl (lv_at hl 0 rfl) ?_
              refine lv_iconst (v := 1) hx hb dX4_advance_118 (by decide) ?_
              refine th_put (Tp := TyX a E) (Rl := fr [(5, 6)] [] C) (ci := 4) (v := .int 1) (ty := .int) (CC := RX4) (T := TX4) (N := 6) hx hb htg ig_4 tyX4 tyX4_ok nmX4 hown hK hP hD hS 5 (by decide) (sX_5 hT) rfl 3 (by decide) (htg _ q_222) (fun _ h9 => h9) rfl (by decide +kernel) rfl rfl (Nat.le_of_ble_eq_true rfl) (hT.up 5 ⟨rfl, (fX_5_1 hT), (fX_5_2 hT), (fX_5_4 hT), (fX_5_5 hT)⟩) (fr_st hF (by decide) (by decide)) dX4_advance_119 (fun C_338 H locs e_339 hT hF hP hD hS => ?_)
              have t_340 := hT
              rw [hQ]
              exact W.vret hx hb hr (fun t ht hW => ⟨⟨C_338, rfl, ⟨hT, hF, (Eq.trans (show gi (C_338 5) 2 = gi (K54 5) 2 by rw [e_339]; rfl) hv_54)⟩, ⟨by rw [ht]; exact hP, hD⟩⟩, hS.F ht⟩) hS.2.2 dX4_advance_122
          · refine lv_aload_n hx hb dX4_advance_65 rfl (lv_at hl 0 rfl) ?_
            refine va_get (D := D) (ci := 4) (v := .ref (a 32)) (C := RX4) (T := TX4) (N := 6) hx hb htg ig_4 hown hK hP 5 (oh_wg (by decide) (sX_5 hT)) rfl 0 (by decide) (htg _ q_217) (fun _ h9 => h9) rfl dX4_advance_66 ?_
            refine lv_aload_n hx hb dX4_advance_69 rfl (lv_at hl 0 rfl) ?_
            refine va_get (D := D) (ci := 4) (v := .int (gi (K54 5) 5)) (C := RX4) (T := TX4) (N := 6) hx hb htg ig_4 hown hK hP 5 (oh_wg (by decide) (sX_5 hT)) rfl 5 (by decide) (htg _ q_224) (fun _ h9 => h9) rfl dX4_advance_70 ?_
            have n_341 : vp_in (gi (K54 5) 5) 250 := (rg_in (rn_ltu (u' := 249) (Int32.not_le.mp c_261) (fX_5_5 t_260) (fX_5_1 t_260) (by decide)) (by decide))
            refine th_iald hx hb hK hP 32 (by decide) (Eq.trans (Eq.trans (hLF_54.1 32 rfl (by decide)) (Eq.trans (th_un e_258 (by decide)) (Eq.trans (hLF_8.1 32 rfl (by decide)) (th_un e_2 (by decide))))) (sX_32 hT0)) n_341 dX4_advance_73 ?_
            refine lv_bipush (v := 97) hx hb dX4_advance_74 (by decide) ?_
            refine lv_icmp_lt (tgt := 106) hx hb dX4_advance_76 (by decide) (fun (c_342 : (ga (C 32) (gi (K54 5) 5).toNatClampNeg) < 97) => ?_) (fun (c_342 : ¬ ((ga (C 32) (gi (K54 5) 5).toNatClampNeg) < 97)) => ?_)
            · refine lv_aload_n hx hb dX4_advance_106 rfl (lv_at hl 0 rfl) ?_
              refine va_get (D := D) (ci := 4) (v := .int (gi (K54 5) 5)) (C := RX4) (T := TX4) (N := 6) hx hb htg ig_4 hown hK hP 5 (oh_wg (by decide) (sX_5 hT)) rfl 5 (by decide) (htg _ q_224) (fun _ h9 => h9) rfl dX4_advance_107 ?_
              refine lv_aload_n hx hb dX4_advance_110 rfl (lv_at hl 0 rfl) ?_
              refine va_get (D := D) (ci := 4) (v := .int (gi (K54 5) 4)) (C := RX4) (T := TX4) (N := 6) hx hb htg ig_4 hown hK hP 5 (oh_wg (by decide) (sX_5 hT)) rfl 4 (by decide) (htg _ q_223) (fun _ h9 => h9) rfl dX4_advance_111 ?_
              refine lv_icmp_le (tgt := 123) hx hb dX4_advance_114 (by decide) (fun (c_343 : (gi (K54 5) 5) ≤ (gi (K54 5) 4)) => ?_) (fun (c_343 : ¬ ((gi (K54 5) 5) ≤ (gi (K54 5) 4))) => ?_)
              · have L_123 : ∀ (d : Nat) (K123 : Nat → va_E) (H : Heap) (locs : List Loc) (ls : Array Slot), (250 - (gi (K123 5) 5).toInt).toNat = d → (gi (K123 5) 2 = gi (C 5) 2) → TyX a E K123 → fr [(5, 6)] [] C K123 → fr [(5, 6)] [] K54 K123 → va_P D vwCl (oh_W 35 a K123) H → va_D A (oh_W 35 a K123) → va_S A s.heap H locs → lv_has ls 1 [(0, .ref (a 5))] → W p l e ({ frames := 0, cells := 0, slots := 0, locals := 0 }) s m (([.ref (a 5)] : List Value).toArray) below meth c H locs 0 0 Q (F0 m 123 ls []) := by
                  intro d
                  induction d using Nat.strongRecOn with
                  | ind d ih_123 =>
                  intro K123  H locs ls hd_123 hv_123 hT hF hLF_123 hP hD hS hl
                  have t_344 := hT
                  refine lv_aload_n hx hb dX4_advance_123 rfl (lv_at hl 0 rfl) ?_
                  refine va_get (D := D) (ci := 4) (v := .int (gi (K123 5) 5)) (C := RX4) (T := TX4) (N := 6) hx hb htg ig_4 hown hK hP 5 (oh_wg (by decide) (sX_5 hT)) rfl 5 (by decide) (htg _ q_224) (fun _ h9 => h9) rfl dX4_advance_124 ?_
                  refine lv_aload_n hx hb dX4_advance_127 rfl (lv_at hl 0 rfl) ?_
                  refine va_get (D := D) (ci := 4) (v := .int (gi (K123 5) 1)) (C := RX4) (T := TX4) (N := 6) hx hb htg ig_4 hown hK hP 5 (oh_wg (by decide) (sX_5 hT)) rfl 1 (by decide) (htg _ q_218) (fun _ h9 => h9) rfl dX4_advance_128 ?_
                  refine lv_icmp_ge (tgt := 175) hx hb dX4_advance_131 (by decide) (fun (c_345 : (gi (K123 5) 1) ≤ (gi (K123 5) 5)) => ?_) (fun (c_345 : ¬ ((gi (K123 5) 1) ≤ (gi (K123 5) 5))) => ?_)
                  · refine lv_aload_n hx hb dX4_advance_175 rfl (lv_at hl 0 rfl) ?_
                    refine va_get (D := D) (ci := 4) (v := .int (gi (K123 5) 5)) (C := RX4) (T := TX4) (N := 6) hx hb htg ig_4 hown hK hP 5 (oh_wg (by decide) (sX_5 hT)) rfl 5 (by decide) (htg _ q_224) (fun _ h9 => h9) rfl dX4_advance_176 ?_
                    refine lv_aload_n hx hb dX4_advance_179 rfl (lv_at hl 0 rfl) ?_
                    refine va_get (D := D) (ci := 4) (v := .int (gi (K123 5) 4)) (C := RX4) (T := TX4) (N := 6) hx hb htg ig_4 hown hK hP 5 (oh_wg (by decide) (sX_5 hT)) rfl 4 (by decide) (htg _ q_223) (fun _ h9 => h9) rfl dX4_advance_180 ?_
                    refine lv_icmp_le (tgt := 192) hx hb dX4_advance_183 (by decide) (fun (c_346 : (gi (K123 5) 5) ≤ (gi (K123 5) 4)) => ?_) (fun (c_346 : ¬ ((gi (K123 5) 5) ≤ (gi (K123 5) 4))) => ?_)
                    · refine lv_aload_n hx hb dX4_advance_192 rfl (lv_at hl 0 rfl) ?_
                      refine va_get (D := D) (ci := 4) (v := .int (gi (K123 5) 4)) (C := RX4) (T := TX4) (N := 6) hx hb htg ig_4 hown hK hP 5 (oh_wg (by decide) (sX_5 hT)) rfl 4 (by decide) (htg _ q_223) (fun _ h9 => h9) rfl dX4_advance_193 ?_
                      refine lv_aload_n hx hb dX4_advance_196 rfl (lv_at hl 0 rfl) ?_
                      refine va_get (D := D) (ci := 4) (v := .int (gi (K123 5) 1)) (C := RX4) (T := TX4) (N := 6) hx hb htg ig_4 hown hK hP 5 (oh_wg (by decide) (sX_5 hT)) rfl 1 (by decide) (htg _ q_218) (fun _ h9 => h9) rfl dX4_advance_197 ?_
                      refine lv_icmp_lt (tgt := 209) hx hb dX4_advance_200 (by decide) (fun (c_347 : (gi (K123 5) 4) < (gi (K123 5) 1)) => ?_) (fun (c_347 : ¬ ((gi (K123 5) 4) < (gi (K123 5) 1))) => ?_)
                      · refine lv_aload_n hx hb dX4_advance_209 rfl (lv_at hl 0 rfl) ?_
                        refine lv_aload_n hx hb dX4_advance_210 rfl (lv_at hl 0 rfl) ?_
                        refine va_get (D := D) (ci := 4) (v := .ref (a 32)) (C := RX4) (T := TX4) (N := 6) hx hb htg ig_4 hown hK hP 5 (oh_wg (by decide) (sX_5 hT)) rfl 0 (by decide) (htg _ q_217) (fun _ h9 => h9) rfl dX4_advance_211 ?_
                        refine lv_aload_n hx hb dX4_advance_214 rfl (lv_at hl 0 rfl) ?_
                        refine va_get (D := D) (ci := 4) (v := .int (gi (K123 5) 4)) (C := RX4) (T := TX4) (N := 6) hx hb htg ig_4 hown hK hP 5 (oh_wg (by decide) (sX_5 hT)) rfl 4 (by decide) (htg _ q_223) (fun _ h9 => h9) rfl dX4_advance_215 ?_
                        have n_348 : vp_in (gi (K123 5) 4) 250 := (rg_in (rn_ltu (u' := 249) c_347 (rn_lel c_346 (rn_lel c_345 (rn_ltl (l' := 1) c_347 (fX_5_4 t_344) (fX_5_1 t_344) (by decide)) (fX_5_5 t_344)) (fX_5_4 t_344)) (fX_5_1 t_344) (by decide)) (by decide))
                        refine th_iald hx hb hK hP 32 (by decide) (Eq.trans (Eq.trans (hLF_123.1 32 rfl (by decide)) (Eq.trans (hLF_54.1 32 rfl (by decide)) (Eq.trans (th_un e_258 (by decide)) (Eq.trans (hLF_8.1 32 rfl (by decide)) (th_un e_2 (by decide)))))) (sX_32 hT0)) n_348 dX4_advance_218 ?_
                        refine lv_bipush (v := 59) hx hb dX4_advance_219 (by decide) ?_
                        refine lv_icmp_ne (tgt := 228) hx hb dX4_advance_221 (by decide) (fun (c_349 : ¬ ((ga (C 32) (gi (K123 5) 4).toNatClampNeg) = 59)) => ?_) (fun (c_349 : (ga (C 32) (gi (K123 5) 4).toNatClampNeg) = 59) => ?_)
                        · refine lv_iconst (v := 4) hx hb dX4_advance_228 (by decide) ?_
                          refine th_put (Tp := TyX a E) (Rl := fr [(5, 6)] [] C) (ci := 4) (v := .int 4) (ty := .int) (CC := RX4) (T := TX4) (N := 6) hx hb htg ig_4 tyX4 tyX4_ok nmX4 hown hK hP hD hS 5 (by decide) (sX_5 hT) rfl 3 (by decide) (htg _ q_222) (fun _ h9 => h9) rfl (by decide +kernel) rfl rfl (Nat.le_of_ble_eq_true rfl) (hT.up 5 ⟨rfl, (fX_5_1 hT), (fX_5_2 hT), (fX_5_4 hT), (fX_5_5 hT)⟩) (fr_st hF (by decide) (by decide)) dX4_advance_229 (fun C_350 H locs e_351 hT hF hP hD hS => ?_)
                          have t_352 := hT
                          refine lv_aload_n hx hb dX4_advance_232 rfl (lv_at hl 0 rfl) ?_
                          refine lv_aload_n hx hb dX4_advance_233 rfl (lv_at hl 0 rfl) ?_
                          refine va_get (D := D) (ci := 4) (v := .int (gi (K123 5) 4)) (C := RX4) (T := TX4) (N := 6) hx hb htg ig_4 hown hK hP 5 (oh_wg (by decide) (sX_5 hT)) rfl 4 (by decide) (htg _ q_223) (fun _ h9 => h9) (oh_fv (c := C_350 5) (j := 4) rfl (show gi (C_350 5) 4 = gi (K123 5) 4 by rw [e_351]; rfl)) dX4_advance_234 ?_
                          refine lv_iconst (v := 1) hx hb dX4_advance_237 (by decide) ?_
                          refine lv_iadd hx hb dX4_advance_238 ?_
                          refine th_put (Tp := TyX a E) (Rl := fr [(5, 6)] [] C) (ci := 4) (v := .int ((gi (K123 5) 4) + 1)) (ty := .int) (CC := RX4) (T := TX4) (N := 6) hx hb htg ig_4 tyX4 tyX4_ok nmX4 hown hK hP hD hS 5 (by decide) (sX_5 hT) rfl 5 (by decide) (htg _ q_224) (fun _ h9 => h9) rfl (by decide +kernel) rfl rfl (Nat.le_of_ble_eq_true rfl) (hT.up 5 ⟨rfl, (fX_5_1 hT), (fX_5_2 hT), (fX_5_4 hT), (rg_w (rg_add (lo := 2) (hi := 250) (rn_ltu (u' := 249) c_347 (rn_lel c_346 (rn_lel c_345 (rn_ltl (l' := 1) c_347 (fX_5_4 t_344) (fX_5_1 t_344) (by decide)) (fX_5_5 t_344)) (fX_5_4 t_344)) (fX_5_1 t_344) (by decide)) (rg_c (v := 1) (lo := 1) (hi := 1) (by decide)) (by decide)) (by decide))⟩) (fr_st hF (by decide) (by decide)) dX4_advance_239 (fun C_353 H locs e_354 hT hF hP hD hS => ?_)
                          have t_355 := hT
                          rw [hQ]
                          exact W.vret hx hb hr (fun t ht hW => ⟨⟨C_353, rfl, ⟨hT, hF, (Eq.trans (Eq.trans (show gi (C_353 5) 2 = gi (C_350 5) 2 by rw [e_354]; rfl) (show gi (C_350 5) 2 = gi (K123 5) 2 by rw [e_351]; rfl)) hv_123)⟩, ⟨by rw [ht]; exact hP, hD⟩⟩, hS.F ht⟩) hS.2.2 dX4_advance_242
                        · refine lv_iconst (v := 3) hx hb dX4_advance_224 (by decide) ?_
                          refine lv_goto (tgt := 229) hx hb dX4_advance_225 (by decide) ?_
                          refine th_put (Tp := TyX a E) (Rl := fr [(5, 6)] [] C) (ci := 4) (v := .int 3) (ty := .int) (CC := RX4) (T := TX4) (N := 6) hx hb htg ig_4 tyX4 tyX4_ok nmX4 hown hK hP hD hS 5 (by decide) (sX_5 hT) rfl 3 (by decide) (htg _ q_222) (fun _ h9 => h9) rfl (by decide +kernel) rfl rfl (Nat.le_of_ble_eq_true rfl) (hT.up 5 ⟨rfl, (fX_5_1 hT), (fX_5_2 hT), (fX_5_4 hT), (fX_5_5 hT)⟩) (fr_st hF (by decide) (by decide)) dX4_advance_229 (fun C_356 H locs e_357 hT hF hP hD hS => ?_)
                          have t_358 := hT
                          refine lv_aload_n hx hb dX4_advance_232 rfl (lv_at hl 0 rfl) ?_
                          refine lv_aload_n hx hb dX4_advance_233 rfl (lv_at hl 0 rfl) ?_
                          refine va_get (D := D) (ci := 4) (v := .int (gi (K123 5) 4)) (C := RX4) (T := TX4) (N := 6) hx hb htg ig_4 hown hK hP 5 (oh_wg (by decide) (sX_5 hT)) rfl 4 (by decide) (htg _ q_223) (fun _ h9 => h9) (oh_fv (c := C_356 5) (j := 4) rfl (show gi (C_356 5) 4 = gi (K123 5) 4 by rw [e_357]; rfl)) dX4_advance_234 ?_
                          refine lv_iconst (v := 1) hx hb dX4_advance_237 (by decide) ?_
                          refine lv_iadd hx hb dX4_advance_238 ?_
                          refine th_put (Tp := TyX a E) (Rl := fr [(5, 6)] [] C) (ci := 4) (v := .int ((gi (K123 5) 4) + 1)) (ty := .int) (CC := RX4) (T := TX4) (N := 6) hx hb htg ig_4 tyX4 tyX4_ok nmX4 hown hK hP hD hS 5 (by decide) (sX_5 hT) rfl 5 (by decide) (htg _ q_224) (fun _ h9 => h9) rfl (by decide +kernel) rfl rfl (Nat.le_of_ble_eq_true rfl) (hT.up 5 ⟨rfl, (fX_5_1 hT), (fX_5_2 hT), (fX_5_4 hT), (rg_w (rg_add (lo := 2) (hi := 250) (rn_ltu (u' := 249) c_347 (rn_lel c_346 (rn_lel c_345 (rn_ltl (l' := 1) c_347 (fX_5_4 t_344) (fX_5_1 t_344) (by decide)) (fX_5_5 t_344)) (fX_5_4 t_344)) (fX_5_1 t_344) (by decide)) (rg_c (v := 1) (lo := 1) (hi := 1) (by decide)) (by decide)) (by decide))⟩) (fr_st hF (by decide) (by decide)) dX4_advance_239 (fun C_359 H locs e_360 hT hF hP hD hS => ?_)
                          have t_361 := hT
                          rw [hQ]
                          exact W.vret hx hb hr (fun t ht hW => ⟨⟨C_359, rfl, ⟨hT, hF, (Eq.trans (Eq.trans (show gi (C_359 5) 2 = gi (C_356 5) 2 by rw [e_360]; rfl) (show gi (C_356 5) 2 = gi (K123 5) 2 by rw [e_357]; rfl)) hv_123)⟩, ⟨by rw [ht]; exact hP, hD⟩⟩, hS.F ht⟩) hS.2.2 dX4_advance_242
                      · refine lv_aload_n hx hb dX4_advance_203 rfl (lv_at hl 0 rfl) ?_
                        refine lv_iconst (v := 0) hx hb dX4_advance_204 (by decide) ?_
                        refine th_put (Tp := TyX a E) (Rl := fr [(5, 6)] [] C) (ci := 4) (v := .int 0) (ty := .int) (CC := RX4) (T := TX4) (N := 6) hx hb htg ig_4 tyX4 tyX4_ok nmX4 hown hK hP hD hS 5 (by decide) (sX_5 hT) rfl 3 (by decide) (htg _ q_222) (fun _ h9 => h9) rfl (by decide +kernel) rfl rfl (Nat.le_of_ble_eq_true rfl) (hT.up 5 ⟨rfl, (fX_5_1 hT), (fX_5_2 hT), (fX_5_4 hT), (fX_5_5 hT)⟩) (fr_st hF (by decide) (by decide)) dX4_advance_205 (fun C_362 H locs e_363 hT hF hP hD hS => ?_)
                        have t_364 := hT
                        rw [hQ]
                        exact W.vret hx hb hr (fun t ht hW => ⟨⟨C_362, rfl, ⟨hT, hF, (Eq.trans (show gi (C_362 5) 2 = gi (K123 5) 2 by rw [e_363]; rfl) hv_123)⟩, ⟨by rw [ht]; exact hP, hD⟩⟩, hS.F ht⟩) hS.2.2 dX4_advance_208
                    · refine lv_aload_n hx hb dX4_advance_186 rfl (lv_at hl 0 rfl) ?_
                      refine lv_iconst (v := 2) hx hb dX4_advance_187 (by decide) ?_
                      refine th_put (Tp := TyX a E) (Rl := fr [(5, 6)] [] C) (ci := 4) (v := .int 2) (ty := .int) (CC := RX4) (T := TX4) (N := 6) hx hb htg ig_4 tyX4 tyX4_ok nmX4 hown hK hP hD hS 5 (by decide) (sX_5 hT) rfl 3 (by decide) (htg _ q_222) (fun _ h9 => h9) rfl (by decide +kernel) rfl rfl (Nat.le_of_ble_eq_true rfl) (hT.up 5 ⟨rfl, (fX_5_1 hT), (fX_5_2 hT), (fX_5_4 hT), (fX_5_5 hT)⟩) (fr_st hF (by decide) (by decide)) dX4_advance_188 (fun C_365 H locs e_366 hT hF hP hD hS => ?_)
                      have t_367 := hT
                      rw [hQ]
                      exact W.vret hx hb hr (fun t ht hW => ⟨⟨C_365, rfl, ⟨hT, hF, (Eq.trans (show gi (C_365 5) 2 = gi (K123 5) 2 by rw [e_366]; rfl) hv_123)⟩, ⟨by rw [ht]; exact hP, hD⟩⟩, hS.F ht⟩) hS.2.2 dX4_advance_191
                  · refine lv_aload_n hx hb dX4_advance_134 rfl (lv_at hl 0 rfl) ?_
                    refine va_get (D := D) (ci := 4) (v := .ref (a 32)) (C := RX4) (T := TX4) (N := 6) hx hb htg ig_4 hown hK hP 5 (oh_wg (by decide) (sX_5 hT)) rfl 0 (by decide) (htg _ q_217) (fun _ h9 => h9) rfl dX4_advance_135 ?_
                    refine lv_aload_n hx hb dX4_advance_138 rfl (lv_at hl 0 rfl) ?_
                    refine va_get (D := D) (ci := 4) (v := .int (gi (K123 5) 5)) (C := RX4) (T := TX4) (N := 6) hx hb htg ig_4 hown hK hP 5 (oh_wg (by decide) (sX_5 hT)) rfl 5 (by decide) (htg _ q_224) (fun _ h9 => h9) rfl dX4_advance_139 ?_
                    have n_368 : vp_in (gi (K123 5) 5) 250 := (rg_in (rn_ltu (u' := 249) (Int32.not_le.mp c_345) (fX_5_5 t_344) (fX_5_1 t_344) (by decide)) (by decide))
                    refine th_iald hx hb hK hP 32 (by decide) (Eq.trans (Eq.trans (hLF_123.1 32 rfl (by decide)) (Eq.trans (hLF_54.1 32 rfl (by decide)) (Eq.trans (th_un e_258 (by decide)) (Eq.trans (hLF_8.1 32 rfl (by decide)) (th_un e_2 (by decide)))))) (sX_32 hT0)) n_368 dX4_advance_142 ?_
                    refine lv_bipush (v := 48) hx hb dX4_advance_143 (by decide) ?_
                    refine lv_icmp_lt (tgt := 175) hx hb dX4_advance_145 (by decide) (fun (c_369 : (ga (C 32) (gi (K123 5) 5).toNatClampNeg) < 48) => ?_) (fun (c_369 : ¬ ((ga (C 32) (gi (K123 5) 5).toNatClampNeg) < 48)) => ?_)
                    · refine lv_aload_n hx hb dX4_advance_175 rfl (lv_at hl 0 rfl) ?_
                      refine va_get (D := D) (ci := 4) (v := .int (gi (K123 5) 5)) (C := RX4) (T := TX4) (N := 6) hx hb htg ig_4 hown hK hP 5 (oh_wg (by decide) (sX_5 hT)) rfl 5 (by decide) (htg _ q_224) (fun _ h9 => h9) rfl dX4_advance_176 ?_
                      refine lv_aload_n hx hb dX4_advance_179 rfl (lv_at hl 0 rfl) ?_
                      refine va_get (D := D) (ci := 4) (v := .int (gi (K123 5) 4)) (C := RX4) (T := TX4) (N := 6) hx hb htg ig_4 hown hK hP 5 (oh_wg (by decide) (sX_5 hT)) rfl 4 (by decide) (htg _ q_223) (fun _ h9 => h9) rfl dX4_advance_180 ?_
                      refine lv_icmp_le (tgt := 192) hx hb dX4_advance_183 (by decide) (fun (c_370 : (gi (K123 5) 5) ≤ (gi (K123 5) 4)) => ?_) (fun (c_370 : ¬ ((gi (K123 5) 5) ≤ (gi (K123 5) 4))) => ?_)
                      · refine lv_aload_n hx hb dX4_advance_192 rfl (lv_at hl 0 rfl) ?_
                        refine va_get (D := D) (ci := 4) (v := .int (gi (K123 5) 4)) (C := RX4) (T := TX4) (N := 6) hx hb htg ig_4 hown hK hP 5 (oh_wg (by decide) (sX_5 hT)) rfl 4 (by decide) (htg _ q_223) (fun _ h9 => h9) rfl dX4_advance_193 ?_
                        refine lv_aload_n hx hb dX4_advance_196 rfl (lv_at hl 0 rfl) ?_
                        refine va_get (D := D) (ci := 4) (v := .int (gi (K123 5) 1)) (C := RX4) (T := TX4) (N := 6) hx hb htg ig_4 hown hK hP 5 (oh_wg (by decide) (sX_5 hT)) rfl 1 (by decide) (htg _ q_218) (fun _ h9 => h9) rfl dX4_advance_197 ?_
                        refine lv_icmp_lt (tgt := 209) hx hb dX4_advance_200 (by decide) (fun (c_371 : (gi (K123 5) 4) < (gi (K123 5) 1)) => ?_) (fun (c_371 : ¬ ((gi (K123 5) 4) < (gi (K123 5) 1))) => ?_)
                        · refine lv_aload_n hx hb dX4_advance_209 rfl (lv_at hl 0 rfl) ?_
                          refine lv_aload_n hx hb dX4_advance_210 rfl (lv_at hl 0 rfl) ?_
                          refine va_get (D := D) (ci := 4) (v := .ref (a 32)) (C := RX4) (T := TX4) (N := 6) hx hb htg ig_4 hown hK hP 5 (oh_wg (by decide) (sX_5 hT)) rfl 0 (by decide) (htg _ q_217) (fun _ h9 => h9) rfl dX4_advance_211 ?_
                          refine lv_aload_n hx hb dX4_advance_214 rfl (lv_at hl 0 rfl) ?_
                          refine va_get (D := D) (ci := 4) (v := .int (gi (K123 5) 4)) (C := RX4) (T := TX4) (N := 6) hx hb htg ig_4 hown hK hP 5 (oh_wg (by decide) (sX_5 hT)) rfl 4 (by decide) (htg _ q_223) (fun _ h9 => h9) rfl dX4_advance_215 ?_
                          have n_372 : vp_in (gi (K123 5) 4) 250 := (rg_in (rn_ltu (u' := 249) c_371 (fX_5_4 t_344) (rn_ltl (l' := 1) (Int32.not_le.mp c_345) (fX_5_5 t_344) (fX_5_1 t_344) (by decide)) (by decide)) (by decide))
                          refine th_iald hx hb hK hP 32 (by decide) (Eq.trans (Eq.trans (hLF_123.1 32 rfl (by decide)) (Eq.trans (hLF_54.1 32 rfl (by decide)) (Eq.trans (th_un e_258 (by decide)) (Eq.trans (hLF_8.1 32 rfl (by decide)) (th_un e_2 (by decide)))))) (sX_32 hT0)) n_372 dX4_advance_218 ?_
                          refine lv_bipush (v := 59) hx hb dX4_advance_219 (by decide) ?_
                          refine lv_icmp_ne (tgt := 228) hx hb dX4_advance_221 (by decide) (fun (c_373 : ¬ ((ga (C 32) (gi (K123 5) 4).toNatClampNeg) = 59)) => ?_) (fun (c_373 : (ga (C 32) (gi (K123 5) 4).toNatClampNeg) = 59) => ?_)
                          · refine lv_iconst (v := 4) hx hb dX4_advance_228 (by decide) ?_
                            refine th_put (Tp := TyX a E) (Rl := fr [(5, 6)] [] C) (ci := 4) (v := .int 4) (ty := .int) (CC := RX4) (T := TX4) (N := 6) hx hb htg ig_4 tyX4 tyX4_ok nmX4 hown hK hP hD hS 5 (by decide) (sX_5 hT) rfl 3 (by decide) (htg _ q_222) (fun _ h9 => h9) rfl (by decide +kernel) rfl rfl (Nat.le_of_ble_eq_true rfl) (hT.up 5 ⟨rfl, (fX_5_1 hT), (fX_5_2 hT), (fX_5_4 hT), (fX_5_5 hT)⟩) (fr_st hF (by decide) (by decide)) dX4_advance_229 (fun C_374 H locs e_375 hT hF hP hD hS => ?_)
                            have t_376 := hT
                            refine lv_aload_n hx hb dX4_advance_232 rfl (lv_at hl 0 rfl) ?_
                            refine lv_aload_n hx hb dX4_advance_233 rfl (lv_at hl 0 rfl) ?_
                            refine va_get (D := D) (ci := 4) (v := .int (gi (K123 5) 4)) (C := RX4) (T := TX4) (N := 6) hx hb htg ig_4 hown hK hP 5 (oh_wg (by decide) (sX_5 hT)) rfl 4 (by decide) (htg _ q_223) (fun _ h9 => h9) (oh_fv (c := C_374 5) (j := 4) rfl (show gi (C_374 5) 4 = gi (K123 5) 4 by rw [e_375]; rfl)) dX4_advance_234 ?_
                            refine lv_iconst (v := 1) hx hb dX4_advance_237 (by decide) ?_
                            refine lv_iadd hx hb dX4_advance_238 ?_
                            refine th_put (Tp := TyX a E) (Rl := fr [(5, 6)] [] C) (ci := 4) (v := .int ((gi (K123 5) 4) + 1)) (ty := .int) (CC := RX4) (T := TX4) (N := 6) hx hb htg ig_4 tyX4 tyX4_ok nmX4 hown hK hP hD hS 5 (by decide) (sX_5 hT) rfl 5 (by decide) (htg _ q_224) (fun _ h9 => h9) rfl (by decide +kernel) rfl rfl (Nat.le_of_ble_eq_true rfl) (hT.up 5 ⟨rfl, (fX_5_1 hT), (fX_5_2 hT), (fX_5_4 hT), (rg_w (rg_add (lo := 1) (hi := 250) (rn_ltu (u' := 249) c_371 (fX_5_4 t_344) (rn_ltl (l' := 1) (Int32.not_le.mp c_345) (fX_5_5 t_344) (fX_5_1 t_344) (by decide)) (by decide)) (rg_c (v := 1) (lo := 1) (hi := 1) (by decide)) (by decide)) (by decide))⟩) (fr_st hF (by decide) (by decide)) dX4_advance_239 (fun C_377 H locs e_378 hT hF hP hD hS => ?_)
                            have t_379 := hT
                            rw [hQ]
                            exact W.vret hx hb hr (fun t ht hW => ⟨⟨C_377, rfl, ⟨hT, hF, (Eq.trans (Eq.trans (show gi (C_377 5) 2 = gi (C_374 5) 2 by rw [e_378]; rfl) (show gi (C_374 5) 2 = gi (K123 5) 2 by rw [e_375]; rfl)) hv_123)⟩, ⟨by rw [ht]; exact hP, hD⟩⟩, hS.F ht⟩) hS.2.2 dX4_advance_242
                          · refine lv_iconst (v := 3) hx hb dX4_advance_224 (by decide) ?_
                            refine lv_goto (tgt := 229) hx hb dX4_advance_225 (by decide) ?_
                            refine th_put (Tp := TyX a E) (Rl := fr [(5, 6)] [] C) (ci := 4) (v := .int 3) (ty := .int) (CC := RX4) (T := TX4) (N := 6) hx hb htg ig_4 tyX4 tyX4_ok nmX4 hown hK hP hD hS 5 (by decide) (sX_5 hT) rfl 3 (by decide) (htg _ q_222) (fun _ h9 => h9) rfl (by decide +kernel) rfl rfl (Nat.le_of_ble_eq_true rfl) (hT.up 5 ⟨rfl, (fX_5_1 hT), (fX_5_2 hT), (fX_5_4 hT), (fX_5_5 hT)⟩) (fr_st hF (by decide) (by decide)) dX4_advance_229 (fun C_380 H locs e_381 hT hF hP hD hS => ?_)
                            have t_382 := hT
                            refine lv_aload_n hx hb dX4_advance_232 rfl (lv_at hl 0 rfl) ?_
                            refine lv_aload_n hx hb dX4_advance_233 rfl (lv_at hl 0 rfl) ?_
                            refine va_get (D := D) (ci := 4) (v := .int (gi (K123 5) 4)) (C := RX4) (T := TX4) (N := 6) hx hb htg ig_4 hown hK hP 5 (oh_wg (by decide) (sX_5 hT)) rfl 4 (by decide) (htg _ q_223) (fun _ h9 => h9) (oh_fv (c := C_380 5) (j := 4) rfl (show gi (C_380 5) 4 = gi (K123 5) 4 by rw [e_381]; rfl)) dX4_advance_234 ?_
                            refine lv_iconst (v := 1) hx hb dX4_advance_237 (by decide) ?_
                            refine lv_iadd hx hb dX4_advance_238 ?_
                            refine th_put (Tp := TyX a E) (Rl := fr [(5, 6)] [] C) (ci := 4) (v := .int ((gi (K123 5) 4) + 1)) (ty := .int) (CC := RX4) (T := TX4) (N := 6) hx hb htg ig_4 tyX4 tyX4_ok nmX4 hown hK hP hD hS 5 (by decide) (sX_5 hT) rfl 5 (by decide) (htg _ q_224) (fun _ h9 => h9) rfl (by decide +kernel) rfl rfl (Nat.le_of_ble_eq_true rfl) (hT.up 5 ⟨rfl, (fX_5_1 hT), (fX_5_2 hT), (fX_5_4 hT), (rg_w (rg_add (lo := 1) (hi := 250) (rn_ltu (u' := 249) c_371 (fX_5_4 t_344) (rn_ltl (l' := 1) (Int32.not_le.mp c_345) (fX_5_5 t_344) (fX_5_1 t_344) (by decide)) (by decide)) (rg_c (v := 1) (lo := 1) (hi := 1) (by decide)) (by decide)) (by decide))⟩) (fr_st hF (by decide) (by decide)) dX4_advance_239 (fun C_383 H locs e_384 hT hF hP hD hS => ?_)
                            have t_385 := hT
                            rw [hQ]
                            exact W.vret hx hb hr (fun t ht hW => ⟨⟨C_383, rfl, ⟨hT, hF, (Eq.trans (Eq.trans (show gi (C_383 5) 2 = gi (C_380 5) 2 by rw [e_384]; rfl) (show gi (C_380 5) 2 = gi (K123 5) 2 by rw [e_381]; rfl)) hv_123)⟩, ⟨by rw [ht]; exact hP, hD⟩⟩, hS.F ht⟩) hS.2.2 dX4_advance_242
                        · refine lv_aload_n hx hb dX4_advance_203 rfl (lv_at hl 0 rfl) ?_
                          refine lv_iconst (v := 0) hx hb dX4_advance_204 (by decide) ?_
                          refine th_put (Tp := TyX a E) (Rl := fr [(5, 6)] [] C) (ci := 4) (v := .int 0) (ty := .int) (CC := RX4) (T := TX4) (N := 6) hx hb htg ig_4 tyX4 tyX4_ok nmX4 hown hK hP hD hS 5 (by decide) (sX_5 hT) rfl 3 (by decide) (htg _ q_222) (fun _ h9 => h9) rfl (by decide +kernel) rfl rfl (Nat.le_of_ble_eq_true rfl) (hT.up 5 ⟨rfl, (fX_5_1 hT), (fX_5_2 hT), (fX_5_4 hT), (fX_5_5 hT)⟩) (fr_st hF (by decide) (by decide)) dX4_advance_205 (fun C_386 H locs e_387 hT hF hP hD hS => ?_)
                          have t_388 := hT
                          rw [hQ]
                          exact W.vret hx hb hr (fun t ht hW => ⟨⟨C_386, rfl, ⟨hT, hF, (Eq.trans (show gi (C_386 5) 2 = gi (K123 5) 2 by rw [e_387]; rfl) hv_123)⟩, ⟨by rw [ht]; exact hP, hD⟩⟩, hS.F ht⟩) hS.2.2 dX4_advance_208
                      · refine lv_aload_n hx hb dX4_advance_186 rfl (lv_at hl 0 rfl) ?_
                        refine lv_iconst (v := 2) hx hb dX4_advance_187 (by decide) ?_
                        refine th_put (Tp := TyX a E) (Rl := fr [(5, 6)] [] C) (ci := 4) (v := .int 2) (ty := .int) (CC := RX4) (T := TX4) (N := 6) hx hb htg ig_4 tyX4 tyX4_ok nmX4 hown hK hP hD hS 5 (by decide) (sX_5 hT) rfl 3 (by decide) (htg _ q_222) (fun _ h9 => h9) rfl (by decide +kernel) rfl rfl (Nat.le_of_ble_eq_true rfl) (hT.up 5 ⟨rfl, (fX_5_1 hT), (fX_5_2 hT), (fX_5_4 hT), (fX_5_5 hT)⟩) (fr_st hF (by decide) (by decide)) dX4_advance_188 (fun C_389 H locs e_390 hT hF hP hD hS => ?_)
                        have t_391 := hT
                        rw [hQ]
                        exact W.vret hx hb hr (fun t ht hW => ⟨⟨C_389, rfl, ⟨hT, hF, (Eq.trans (show gi (C_389 5) 2 = gi (K123 5) 2 by rw [e_390]; rfl) hv_123)⟩, ⟨by rw [ht]; exact hP, hD⟩⟩, hS.F ht⟩) hS.2.2 dX4_advance_191
                    · refine lv_aload_n hx hb dX4_advance_148 rfl (lv_at hl 0 rfl) ?_
                      refine va_get (D := D) (ci := 4) (v := .ref (a 32)) (C := RX4) (T := TX4) (N := 6) hx hb htg ig_4 hown hK hP 5 (oh_wg (by decide) (sX_5 hT)) rfl 0 (by decide) (htg _ q_217) (fun _ h9 => h9) rfl dX4_advance_149 ?_
                      refine lv_aload_n hx hb dX4_advance_152 rfl (lv_at hl 0 rfl) ?_
                      refine va_get (D := D) (ci := 4) (v := .int (gi (K123 5) 5)) (C := RX4) (T := TX4) (N := 6) hx hb htg ig_4 hown hK hP 5 (oh_wg (by decide) (sX_5 hT)) rfl 5 (by decide) (htg _ q_224) (fun _ h9 => h9) rfl dX4_advance_153 ?_
                      have n_392 : vp_in (gi (K123 5) 5) 250 := (rg_in (rn_ltu (u' := 249) (Int32.not_le.mp c_345) (fX_5_5 t_344) (fX_5_1 t_344) (by decide)) (by decide))
                      refine th_iald hx hb hK hP 32 (by decide) (Eq.trans (Eq.trans (hLF_123.1 32 rfl (by decide)) (Eq.trans (hLF_54.1 32 rfl (by decide)) (Eq.trans (th_un e_258 (by decide)) (Eq.trans (hLF_8.1 32 rfl (by decide)) (th_un e_2 (by decide)))))) (sX_32 hT0)) n_392 dX4_advance_156 ?_
                      refine lv_bipush (v := 57) hx hb dX4_advance_157 (by decide) ?_
                      refine lv_icmp_gt (tgt := 175) hx hb dX4_advance_159 (by decide) (fun (c_393 : (57 : Int32) < (ga (C 32) (gi (K123 5) 5).toNatClampNeg)) => ?_) (fun (c_393 : ¬ ((57 : Int32) < (ga (C 32) (gi (K123 5) 5).toNatClampNeg))) => ?_)
                      · refine lv_aload_n hx hb dX4_advance_175 rfl (lv_at hl 0 rfl) ?_
                        refine va_get (D := D) (ci := 4) (v := .int (gi (K123 5) 5)) (C := RX4) (T := TX4) (N := 6) hx hb htg ig_4 hown hK hP 5 (oh_wg (by decide) (sX_5 hT)) rfl 5 (by decide) (htg _ q_224) (fun _ h9 => h9) rfl dX4_advance_176 ?_
                        refine lv_aload_n hx hb dX4_advance_179 rfl (lv_at hl 0 rfl) ?_
                        refine va_get (D := D) (ci := 4) (v := .int (gi (K123 5) 4)) (C := RX4) (T := TX4) (N := 6) hx hb htg ig_4 hown hK hP 5 (oh_wg (by decide) (sX_5 hT)) rfl 4 (by decide) (htg _ q_223) (fun _ h9 => h9) rfl dX4_advance_180 ?_
                        refine lv_icmp_le (tgt := 192) hx hb dX4_advance_183 (by decide) (fun (c_394 : (gi (K123 5) 5) ≤ (gi (K123 5) 4)) => ?_) (fun (c_394 : ¬ ((gi (K123 5) 5) ≤ (gi (K123 5) 4))) => ?_)
                        · refine lv_aload_n hx hb dX4_advance_192 rfl (lv_at hl 0 rfl) ?_
                          refine va_get (D := D) (ci := 4) (v := .int (gi (K123 5) 4)) (C := RX4) (T := TX4) (N := 6) hx hb htg ig_4 hown hK hP 5 (oh_wg (by decide) (sX_5 hT)) rfl 4 (by decide) (htg _ q_223) (fun _ h9 => h9) rfl dX4_advance_193 ?_
                          refine lv_aload_n hx hb dX4_advance_196 rfl (lv_at hl 0 rfl) ?_
                          refine va_get (D := D) (ci := 4) (v := .int (gi (K123 5) 1)) (C := RX4) (T := TX4) (N := 6) hx hb htg ig_4 hown hK hP 5 (oh_wg (by decide) (sX_5 hT)) rfl 1 (by decide) (htg _ q_218) (fun _ h9 => h9) rfl dX4_advance_197 ?_
                          refine lv_icmp_lt (tgt := 209) hx hb dX4_advance_200 (by decide) (fun (c_395 : (gi (K123 5) 4) < (gi (K123 5) 1)) => ?_) (fun (c_395 : ¬ ((gi (K123 5) 4) < (gi (K123 5) 1))) => ?_)
                          · refine lv_aload_n hx hb dX4_advance_209 rfl (lv_at hl 0 rfl) ?_
                            refine lv_aload_n hx hb dX4_advance_210 rfl (lv_at hl 0 rfl) ?_
                            refine va_get (D := D) (ci := 4) (v := .ref (a 32)) (C := RX4) (T := TX4) (N := 6) hx hb htg ig_4 hown hK hP 5 (oh_wg (by decide) (sX_5 hT)) rfl 0 (by decide) (htg _ q_217) (fun _ h9 => h9) rfl dX4_advance_211 ?_
                            refine lv_aload_n hx hb dX4_advance_214 rfl (lv_at hl 0 rfl) ?_
                            refine va_get (D := D) (ci := 4) (v := .int (gi (K123 5) 4)) (C := RX4) (T := TX4) (N := 6) hx hb htg ig_4 hown hK hP 5 (oh_wg (by decide) (sX_5 hT)) rfl 4 (by decide) (htg _ q_223) (fun _ h9 => h9) rfl dX4_advance_215 ?_
                            have n_396 : vp_in (gi (K123 5) 4) 250 := (rg_in (rn_ltu (u' := 249) c_395 (fX_5_4 t_344) (rn_ltl (l' := 1) (Int32.not_le.mp c_345) (fX_5_5 t_344) (fX_5_1 t_344) (by decide)) (by decide)) (by decide))
                            refine th_iald hx hb hK hP 32 (by decide) (Eq.trans (Eq.trans (hLF_123.1 32 rfl (by decide)) (Eq.trans (hLF_54.1 32 rfl (by decide)) (Eq.trans (th_un e_258 (by decide)) (Eq.trans (hLF_8.1 32 rfl (by decide)) (th_un e_2 (by decide)))))) (sX_32 hT0)) n_396 dX4_advance_218 ?_
                            refine lv_bipush (v := 59) hx hb dX4_advance_219 (by decide) ?_
                            refine lv_icmp_ne (tgt := 228) hx hb dX4_advance_221 (by decide) (fun (c_397 : ¬ ((ga (C 32) (gi (K123 5) 4).toNatClampNeg) = 59)) => ?_) (fun (c_397 : (ga (C 32) (gi (K123 5) 4).toNatClampNeg) = 59) => ?_)
                            · refine lv_iconst (v := 4) hx hb dX4_advance_228 (by decide) ?_
                              refine th_put (Tp := TyX a E) (Rl := fr [(5, 6)] [] C) (ci := 4) (v := .int 4) (ty := .int) (CC := RX4) (T := TX4) (N := 6) hx hb htg ig_4 tyX4 tyX4_ok nmX4 hown hK hP hD hS 5 (by decide) (sX_5 hT) rfl 3 (by decide) (htg _ q_222) (fun _ h9 => h9) rfl (by decide +kernel) rfl rfl (Nat.le_of_ble_eq_true rfl) (hT.up 5 ⟨rfl, (fX_5_1 hT), (fX_5_2 hT), (fX_5_4 hT), (fX_5_5 hT)⟩) (fr_st hF (by decide) (by decide)) dX4_advance_229 (fun C_398 H locs e_399 hT hF hP hD hS => ?_)
                              have t_400 := hT
                              refine lv_aload_n hx hb dX4_advance_232 rfl (lv_at hl 0 rfl) ?_
                              refine lv_aload_n hx hb dX4_advance_233 rfl (lv_at hl 0 rfl) ?_
                              refine va_get (D := D) (ci := 4) (v := .int (gi (K123 5) 4)) (C := RX4) (T := TX4) (N := 6) hx hb htg ig_4 hown hK hP 5 (oh_wg (by decide) (sX_5 hT)) rfl 4 (by decide) (htg _ q_223) (fun _ h9 => h9) (oh_fv (c := C_398 5) (j := 4) rfl (show gi (C_398 5) 4 = gi (K123 5) 4 by rw [e_399]; rfl)) dX4_advance_234 ?_
                              refine lv_iconst (v := 1) hx hb dX4_advance_237 (by decide) ?_
                              refine lv_iadd hx hb dX4_advance_238 ?_
                              refine th_put (Tp := TyX a E) (Rl := fr [(5, 6)] [] C) (ci := 4) (v := .int ((gi (K123 5) 4) + 1)) (ty := .int) (CC := RX4) (T := TX4) (N := 6) hx hb htg ig_4 tyX4 tyX4_ok nmX4 hown hK hP hD hS 5 (by decide) (sX_5 hT) rfl 5 (by decide) (htg _ q_224) (fun _ h9 => h9) rfl (by decide +kernel) rfl rfl (Nat.le_of_ble_eq_true rfl) (hT.up 5 ⟨rfl, (fX_5_1 hT), (fX_5_2 hT), (fX_5_4 hT), (rg_w (rg_add (lo := 1) (hi := 250) (rn_ltu (u' := 249) c_395 (fX_5_4 t_344) (rn_ltl (l' := 1) (Int32.not_le.mp c_345) (fX_5_5 t_344) (fX_5_1 t_344) (by decide)) (by decide)) (rg_c (v := 1) (lo := 1) (hi := 1) (by decide)) (by decide)) (by decide))⟩) (fr_st hF (by decide) (by decide)) dX4_advance_239 (fun C_401 H locs e_402 hT hF hP hD hS => ?_)
                              have t_403 := hT
                              rw [hQ]
                              exact W.vret hx hb hr (fun t ht hW => ⟨⟨C_401, rfl, ⟨hT, hF, (Eq.trans (Eq.trans (show gi (C_401 5) 2 = gi (C_398 5) 2 by rw [e_402]; rfl) (show gi (C_398 5) 2 = gi (K123 5) 2 by rw [e_399]; rfl)) hv_123)⟩, ⟨by rw [ht]; exact hP, hD⟩⟩, hS.F ht⟩) hS.2.2 dX4_advance_242
                            · refine lv_iconst (v := 3) hx hb dX4_advance_224 (by decide) ?_
                              refine lv_goto (tgt := 229) hx hb dX4_advance_225 (by decide) ?_
                              refine th_put (Tp := TyX a E) (Rl := fr [(5, 6)] [] C) (ci := 4) (v := .int 3) (ty := .int) (CC := RX4) (T := TX4) (N := 6) hx hb htg ig_4 tyX4 tyX4_ok nmX4 hown hK hP hD hS 5 (by decide) (sX_5 hT) rfl 3 (by decide) (htg _ q_222) (fun _ h9 => h9) rfl (by decide +kernel) rfl rfl (Nat.le_of_ble_eq_true rfl) (hT.up 5 ⟨rfl, (fX_5_1 hT), (fX_5_2 hT), (fX_5_4 hT), (fX_5_5 hT)⟩) (fr_st hF (by decide) (by decide)) dX4_advance_229 (fun C_404 H locs e_405 hT hF hP hD hS => ?_)
                              have t_406 := hT
                              refine lv_aload_n hx hb dX4_advance_232 rfl (lv_at hl 0 rfl) ?_
                              refine lv_aload_n hx hb dX4_advance_233 rfl (lv_at hl 0 rfl) ?_
                              refine va_get (D := D) (ci := 4) (v := .int (gi (K123 5) 4)) (C := RX4) (T := TX4) (N := 6) hx hb htg ig_4 hown hK hP 5 (oh_wg (by decide) (sX_5 hT)) rfl 4 (by decide) (htg _ q_223) (fun _ h9 => h9) (oh_fv (c := C_404 5) (j := 4) rfl (show gi (C_404 5) 4 = gi (K123 5) 4 by rw [e_405]; rfl)) dX4_advance_234 ?_
                              refine lv_iconst (v := 1) hx hb dX4_advance_237 (by decide) ?_
                              refine lv_iadd hx hb dX4_advance_238 ?_
                              refine th_put (Tp := TyX a E) (Rl := fr [(5, 6)] [] C) (ci := 4) (v := .int ((gi (K123 5) 4) + 1)) (ty := .int) (CC := RX4) (T := TX4) (N := 6) hx hb htg ig_4 tyX4 tyX4_ok nmX4 hown hK hP hD hS 5 (by decide) (sX_5 hT) rfl 5 (by decide) (htg _ q_224) (fun _ h9 => h9) rfl (by decide +kernel) rfl rfl (Nat.le_of_ble_eq_true rfl) (hT.up 5 ⟨rfl, (fX_5_1 hT), (fX_5_2 hT), (fX_5_4 hT), (rg_w (rg_add (lo := 1) (hi := 250) (rn_ltu (u' := 249) c_395 (fX_5_4 t_344) (rn_ltl (l' := 1) (Int32.not_le.mp c_345) (fX_5_5 t_344) (fX_5_1 t_344) (by decide)) (by decide)) (rg_c (v := 1) (lo := 1) (hi := 1) (by decide)) (by decide)) (by decide))⟩) (fr_st hF (by decide) (by decide)) dX4_advance_239 (fun C_407 H locs e_408 hT hF hP hD hS => ?_)
                              have t_409 := hT
                              rw [hQ]
                              exact W.vret hx hb hr (fun t ht hW => ⟨⟨C_407, rfl, ⟨hT, hF, (Eq.trans (Eq.trans (show gi (C_407 5) 2 = gi (C_404 5) 2 by rw [e_408]; rfl) (show gi (C_404 5) 2 = gi (K123 5) 2 by rw [e_405]; rfl)) hv_123)⟩, ⟨by rw [ht]; exact hP, hD⟩⟩, hS.F ht⟩) hS.2.2 dX4_advance_242
                          · refine lv_aload_n hx hb dX4_advance_203 rfl (lv_at hl 0 rfl) ?_
                            refine lv_iconst (v := 0) hx hb dX4_advance_204 (by decide) ?_
                            refine th_put (Tp := TyX a E) (Rl := fr [(5, 6)] [] C) (ci := 4) (v := .int 0) (ty := .int) (CC := RX4) (T := TX4) (N := 6) hx hb htg ig_4 tyX4 tyX4_ok nmX4 hown hK hP hD hS 5 (by decide) (sX_5 hT) rfl 3 (by decide) (htg _ q_222) (fun _ h9 => h9) rfl (by decide +kernel) rfl rfl (Nat.le_of_ble_eq_true rfl) (hT.up 5 ⟨rfl, (fX_5_1 hT), (fX_5_2 hT), (fX_5_4 hT), (fX_5_5 hT)⟩) (fr_st hF (by decide) (by decide)) dX4_advance_205 (fun C_410 H locs e_411 hT hF hP hD hS => ?_)
                            have t_412 := hT
                            rw [hQ]
                            exact W.vret hx hb hr (fun t ht hW => ⟨⟨C_410, rfl, ⟨hT, hF, (Eq.trans (show gi (C_410 5) 2 = gi (K123 5) 2 by rw [e_411]; rfl) hv_123)⟩, ⟨by rw [ht]; exact hP, hD⟩⟩, hS.F ht⟩) hS.2.2 dX4_advance_208
                        · refine lv_aload_n hx hb dX4_advance_186 rfl (lv_at hl 0 rfl) ?_
                          refine lv_iconst (v := 2) hx hb dX4_advance_187 (by decide) ?_
                          refine th_put (Tp := TyX a E) (Rl := fr [(5, 6)] [] C) (ci := 4) (v := .int 2) (ty := .int) (CC := RX4) (T := TX4) (N := 6) hx hb htg ig_4 tyX4 tyX4_ok nmX4 hown hK hP hD hS 5 (by decide) (sX_5 hT) rfl 3 (by decide) (htg _ q_222) (fun _ h9 => h9) rfl (by decide +kernel) rfl rfl (Nat.le_of_ble_eq_true rfl) (hT.up 5 ⟨rfl, (fX_5_1 hT), (fX_5_2 hT), (fX_5_4 hT), (fX_5_5 hT)⟩) (fr_st hF (by decide) (by decide)) dX4_advance_188 (fun C_413 H locs e_414 hT hF hP hD hS => ?_)
                          have t_415 := hT
                          rw [hQ]
                          exact W.vret hx hb hr (fun t ht hW => ⟨⟨C_413, rfl, ⟨hT, hF, (Eq.trans (show gi (C_413 5) 2 = gi (K123 5) 2 by rw [e_414]; rfl) hv_123)⟩, ⟨by rw [ht]; exact hP, hD⟩⟩, hS.F ht⟩) hS.2.2 dX4_advance_191
                      · refine lv_aload_n hx hb dX4_advance_162 rfl (lv_at hl 0 rfl) ?_
                        refine lv_dup hx hb dX4_advance_163 rfl ?_
                        refine va_get (D := D) (ci := 4) (v := .int (gi (K123 5) 5)) (C := RX4) (T := TX4) (N := 6) hx hb htg ig_4 hown hK hP 5 (oh_wg (by decide) (sX_5 hT)) rfl 5 (by decide) (htg _ q_224) (fun _ h9 => h9) rfl dX4_advance_164 ?_
                        refine lv_iconst (v := 1) hx hb dX4_advance_167 (by decide) ?_
                        refine lv_iadd hx hb dX4_advance_168 ?_
                        refine th_put (Tp := TyX a E) (Rl := fr [(5, 6)] [] C) (ci := 4) (v := .int ((gi (K123 5) 5) + 1)) (ty := .int) (CC := RX4) (T := TX4) (N := 6) hx hb htg ig_4 tyX4 tyX4_ok nmX4 hown hK hP hD hS 5 (by decide) (sX_5 hT) rfl 5 (by decide) (htg _ q_224) (fun _ h9 => h9) rfl (by decide +kernel) rfl rfl (Nat.le_of_ble_eq_true rfl) (hT.up 5 ⟨rfl, (fX_5_1 hT), (fX_5_2 hT), (fX_5_4 hT), (rg_w (rg_add (lo := 1) (hi := 250) (rn_ltu (u' := 249) (Int32.not_le.mp c_345) (fX_5_5 t_344) (fX_5_1 t_344) (by decide)) (rg_c (v := 1) (lo := 1) (hi := 1) (by decide)) (by decide)) (by decide))⟩) (fr_st hF (by decide) (by decide)) dX4_advance_169 (fun C_416 H locs e_417 hT hF hP hD hS => ?_)
                        have t_418 := hT
                        refine lv_goto (tgt := 123) hx hb dX4_advance_172 (by decide) ?_
                        exact ih_123 _ (hd_123 ▸ (by rw [(show gi (C_416 5) 5 = ((gi (K123 5) 5) + 1) by rw [e_417]; rfl)]; exact mu_up 250 (rn_ltu (u' := 249) (Int32.not_le.mp c_345) (fX_5_5 t_344) (fX_5_1 t_344) (by decide)) (by decide))) C_416  _ _ ls rfl (Eq.trans (show gi (C_416 5) 2 = gi (K123 5) 2 by rw [e_417]; rfl) hv_123) hT hF (fr_ste hLF_123 e_417 (by decide) (by decide)) hP hD hS (lv_sub hl [0] rfl)
                exact L_123 _ K54  _ _ ls rfl (Eq.trans rfl hv_54) hT hF fr_rf hP hD hS (lv_sub hl [0] rfl)
              · refine lv_aload_n hx hb dX4_advance_117 rfl (lv_at hl 0 rfl) ?_
                refine lv_iconst (v := 1) hx hb dX4_advance_118 (by decide) ?_
                refine th_put (Tp := TyX a E) (Rl := fr [(5, 6)] [] C) (ci := 4) (v := .int 1) (ty := .int) (CC := RX4) (T := TX4) (N := 6) hx hb htg ig_4 tyX4 tyX4_ok nmX4 hown hK hP hD hS 5 (by decide) (sX_5 hT) rfl 3 (by decide) (htg _ q_222) (fun _ h9 => h9) rfl (by decide +kernel) rfl rfl (Nat.le_of_ble_eq_true rfl) (hT.up 5 ⟨rfl, (fX_5_1 hT), (fX_5_2 hT), (fX_5_4 hT), (fX_5_5 hT)⟩) (fr_st hF (by decide) (by decide)) dX4_advance_119 (fun C_419 H locs e_420 hT hF hP hD hS => ?_)
                have t_421 := hT
                rw [hQ]
                exact W.vret hx hb hr (fun t ht hW => ⟨⟨C_419, rfl, ⟨hT, hF, (Eq.trans (show gi (C_419 5) 2 = gi (K54 5) 2 by rw [e_420]; rfl) hv_54)⟩, ⟨by rw [ht]; exact hP, hD⟩⟩, hS.F ht⟩) hS.2.2 dX4_advance_122
            · refine lv_aload_n hx hb dX4_advance_79 rfl (lv_at hl 0 rfl) ?_
              refine va_get (D := D) (ci := 4) (v := .ref (a 32)) (C := RX4) (T := TX4) (N := 6) hx hb htg ig_4 hown hK hP 5 (oh_wg (by decide) (sX_5 hT)) rfl 0 (by decide) (htg _ q_217) (fun _ h9 => h9) rfl dX4_advance_80 ?_
              refine lv_aload_n hx hb dX4_advance_83 rfl (lv_at hl 0 rfl) ?_
              refine va_get (D := D) (ci := 4) (v := .int (gi (K54 5) 5)) (C := RX4) (T := TX4) (N := 6) hx hb htg ig_4 hown hK hP 5 (oh_wg (by decide) (sX_5 hT)) rfl 5 (by decide) (htg _ q_224) (fun _ h9 => h9) rfl dX4_advance_84 ?_
              have n_422 : vp_in (gi (K54 5) 5) 250 := (rg_in (rn_ltu (u' := 249) (Int32.not_le.mp c_261) (fX_5_5 t_260) (fX_5_1 t_260) (by decide)) (by decide))
              refine th_iald hx hb hK hP 32 (by decide) (Eq.trans (Eq.trans (hLF_54.1 32 rfl (by decide)) (Eq.trans (th_un e_258 (by decide)) (Eq.trans (hLF_8.1 32 rfl (by decide)) (th_un e_2 (by decide))))) (sX_32 hT0)) n_422 dX4_advance_87 ?_
              refine lv_bipush (v := 122) hx hb dX4_advance_88 (by decide) ?_
              refine lv_icmp_gt (tgt := 106) hx hb dX4_advance_90 (by decide) (fun (c_423 : (122 : Int32) < (ga (C 32) (gi (K54 5) 5).toNatClampNeg)) => ?_) (fun (c_423 : ¬ ((122 : Int32) < (ga (C 32) (gi (K54 5) 5).toNatClampNeg))) => ?_)
              · refine lv_aload_n hx hb dX4_advance_106 rfl (lv_at hl 0 rfl) ?_
                refine va_get (D := D) (ci := 4) (v := .int (gi (K54 5) 5)) (C := RX4) (T := TX4) (N := 6) hx hb htg ig_4 hown hK hP 5 (oh_wg (by decide) (sX_5 hT)) rfl 5 (by decide) (htg _ q_224) (fun _ h9 => h9) rfl dX4_advance_107 ?_
                refine lv_aload_n hx hb dX4_advance_110 rfl (lv_at hl 0 rfl) ?_
                refine va_get (D := D) (ci := 4) (v := .int (gi (K54 5) 4)) (C := RX4) (T := TX4) (N := 6) hx hb htg ig_4 hown hK hP 5 (oh_wg (by decide) (sX_5 hT)) rfl 4 (by decide) (htg _ q_223) (fun _ h9 => h9) rfl dX4_advance_111 ?_
                refine lv_icmp_le (tgt := 123) hx hb dX4_advance_114 (by decide) (fun (c_424 : (gi (K54 5) 5) ≤ (gi (K54 5) 4)) => ?_) (fun (c_424 : ¬ ((gi (K54 5) 5) ≤ (gi (K54 5) 4))) => ?_)
                · have L_123 : ∀ (d : Nat) (K123 : Nat → va_E) (H : Heap) (locs : List Loc) (ls : Array Slot), (250 - (gi (K123 5) 5).toInt).toNat = d → (gi (K123 5) 2 = gi (C 5) 2) → TyX a E K123 → fr [(5, 6)] [] C K123 → fr [(5, 6)] [] K54 K123 → va_P D vwCl (oh_W 35 a K123) H → va_D A (oh_W 35 a K123) → va_S A s.heap H locs → lv_has ls 1 [(0, .ref (a 5))] → W p l e ({ frames := 0, cells := 0, slots := 0, locals := 0 }) s m (([.ref (a 5)] : List Value).toArray) below meth c H locs 0 0 Q (F0 m 123 ls []) := by
                    intro d
                    induction d using Nat.strongRecOn with
                    | ind d ih_123 =>
                    intro K123  H locs ls hd_123 hv_123 hT hF hLF_123 hP hD hS hl
                    have t_425 := hT
                    refine lv_aload_n hx hb dX4_advance_123 rfl (lv_at hl 0 rfl) ?_
                    refine va_get (D := D) (ci := 4) (v := .int (gi (K123 5) 5)) (C := RX4) (T := TX4) (N := 6) hx hb htg ig_4 hown hK hP 5 (oh_wg (by decide) (sX_5 hT)) rfl 5 (by decide) (htg _ q_224) (fun _ h9 => h9) rfl dX4_advance_124 ?_
                    refine lv_aload_n hx hb dX4_advance_127 rfl (lv_at hl 0 rfl) ?_
                    refine va_get (D := D) (ci := 4) (v := .int (gi (K123 5) 1)) (C := RX4) (T := TX4) (N := 6) hx hb htg ig_4 hown hK hP 5 (oh_wg (by decide) (sX_5 hT)) rfl 1 (by decide) (htg _ q_218) (fun _ h9 => h9) rfl dX4_advance_128 ?_
                    refine lv_icmp_ge (tgt := 175) hx hb dX4_advance_131 (by decide) (fun (c_426 : (gi (K123 5) 1) ≤ (gi (K123 5) 5)) => ?_) (fun (c_426 : ¬ ((gi (K123 5) 1) ≤ (gi (K123 5) 5))) => ?_)
                    · refine lv_aload_n hx hb dX4_advance_175 rfl (lv_at hl 0 rfl) ?_
                      refine va_get (D := D) (ci := 4) (v := .int (gi (K123 5) 5)) (C := RX4) (T := TX4) (N := 6) hx hb htg ig_4 hown hK hP 5 (oh_wg (by decide) (sX_5 hT)) rfl 5 (by decide) (htg _ q_224) (fun _ h9 => h9) rfl dX4_advance_176 ?_
                      refine lv_aload_n hx hb dX4_advance_179 rfl (lv_at hl 0 rfl) ?_
                      refine va_get (D := D) (ci := 4) (v := .int (gi (K123 5) 4)) (C := RX4) (T := TX4) (N := 6) hx hb htg ig_4 hown hK hP 5 (oh_wg (by decide) (sX_5 hT)) rfl 4 (by decide) (htg _ q_223) (fun _ h9 => h9) rfl dX4_advance_180 ?_
                      refine lv_icmp_le (tgt := 192) hx hb dX4_advance_183 (by decide) (fun (c_427 : (gi (K123 5) 5) ≤ (gi (K123 5) 4)) => ?_) (fun (c_427 : ¬ ((gi (K123 5) 5) ≤ (gi (K123 5) 4))) => ?_)
                      · refine lv_aload_n hx hb dX4_advance_192 rfl (lv_at hl 0 rfl) ?_
                        refine va_get (D := D) (ci := 4) (v := .int (gi (K123 5) 4)) (C := RX4) (T := TX4) (N := 6) hx hb htg ig_4 hown hK hP 5 (oh_wg (by decide) (sX_5 hT)) rfl 4 (by decide) (htg _ q_223) (fun _ h9 => h9) rfl dX4_advance_193 ?_
                        refine lv_aload_n hx hb dX4_advance_196 rfl (lv_at hl 0 rfl) ?_
                        refine va_get (D := D) (ci := 4) (v := .int (gi (K123 5) 1)) (C := RX4) (T := TX4) (N := 6) hx hb htg ig_4 hown hK hP 5 (oh_wg (by decide) (sX_5 hT)) rfl 1 (by decide) (htg _ q_218) (fun _ h9 => h9) rfl dX4_advance_197 ?_
                        refine lv_icmp_lt (tgt := 209) hx hb dX4_advance_200 (by decide) (fun (c_428 : (gi (K123 5) 4) < (gi (K123 5) 1)) => ?_) (fun (c_428 : ¬ ((gi (K123 5) 4) < (gi (K123 5) 1))) => ?_)
                        · refine lv_aload_n hx hb dX4_advance_209 rfl (lv_at hl 0 rfl) ?_
                          refine lv_aload_n hx hb dX4_advance_210 rfl (lv_at hl 0 rfl) ?_
                          refine va_get (D := D) (ci := 4) (v := .ref (a 32)) (C := RX4) (T := TX4) (N := 6) hx hb htg ig_4 hown hK hP 5 (oh_wg (by decide) (sX_5 hT)) rfl 0 (by decide) (htg _ q_217) (fun _ h9 => h9) rfl dX4_advance_211 ?_
                          refine lv_aload_n hx hb dX4_advance_214 rfl (lv_at hl 0 rfl) ?_
                          refine va_get (D := D) (ci := 4) (v := .int (gi (K123 5) 4)) (C := RX4) (T := TX4) (N := 6) hx hb htg ig_4 hown hK hP 5 (oh_wg (by decide) (sX_5 hT)) rfl 4 (by decide) (htg _ q_223) (fun _ h9 => h9) rfl dX4_advance_215 ?_
                          have n_429 : vp_in (gi (K123 5) 4) 250 := (rg_in (rn_ltu (u' := 249) c_428 (rn_lel c_427 (rn_lel c_426 (rn_ltl (l' := 1) c_428 (fX_5_4 t_425) (fX_5_1 t_425) (by decide)) (fX_5_5 t_425)) (fX_5_4 t_425)) (fX_5_1 t_425) (by decide)) (by decide))
                          refine th_iald hx hb hK hP 32 (by decide) (Eq.trans (Eq.trans (hLF_123.1 32 rfl (by decide)) (Eq.trans (hLF_54.1 32 rfl (by decide)) (Eq.trans (th_un e_258 (by decide)) (Eq.trans (hLF_8.1 32 rfl (by decide)) (th_un e_2 (by decide)))))) (sX_32 hT0)) n_429 dX4_advance_218 ?_
                          refine lv_bipush (v := 59) hx hb dX4_advance_219 (by decide) ?_
                          refine lv_icmp_ne (tgt := 228) hx hb dX4_advance_221 (by decide) (fun (c_430 : ¬ ((ga (C 32) (gi (K123 5) 4).toNatClampNeg) = 59)) => ?_) (fun (c_430 : (ga (C 32) (gi (K123 5) 4).toNatClampNeg) = 59) => ?_)
                          · refine lv_iconst (v := 4) hx hb dX4_advance_228 (by decide) ?_
                            refine th_put (Tp := TyX a E) (Rl := fr [(5, 6)] [] C) (ci := 4) (v := .int 4) (ty := .int) (CC := RX4) (T := TX4) (N := 6) hx hb htg ig_4 tyX4 tyX4_ok nmX4 hown hK hP hD hS 5 (by decide) (sX_5 hT) rfl 3 (by decide) (htg _ q_222) (fun _ h9 => h9) rfl (by decide +kernel) rfl rfl (Nat.le_of_ble_eq_true rfl) (hT.up 5 ⟨rfl, (fX_5_1 hT), (fX_5_2 hT), (fX_5_4 hT), (fX_5_5 hT)⟩) (fr_st hF (by decide) (by decide)) dX4_advance_229 (fun C_431 H locs e_432 hT hF hP hD hS => ?_)
                            have t_433 := hT
                            refine lv_aload_n hx hb dX4_advance_232 rfl (lv_at hl 0 rfl) ?_
                            refine lv_aload_n hx hb dX4_advance_233 rfl (lv_at hl 0 rfl) ?_
                            refine va_get (D := D) (ci := 4) (v := .int (gi (K123 5) 4)) (C := RX4) (T := TX4) (N := 6) hx hb htg ig_4 hown hK hP 5 (oh_wg (by decide) (sX_5 hT)) rfl 4 (by decide) (htg _ q_223) (fun _ h9 => h9) (oh_fv (c := C_431 5) (j := 4) rfl (show gi (C_431 5) 4 = gi (K123 5) 4 by rw [e_432]; rfl)) dX4_advance_234 ?_
                            refine lv_iconst (v := 1) hx hb dX4_advance_237 (by decide) ?_
                            refine lv_iadd hx hb dX4_advance_238 ?_
                            refine th_put (Tp := TyX a E) (Rl := fr [(5, 6)] [] C) (ci := 4) (v := .int ((gi (K123 5) 4) + 1)) (ty := .int) (CC := RX4) (T := TX4) (N := 6) hx hb htg ig_4 tyX4 tyX4_ok nmX4 hown hK hP hD hS 5 (by decide) (sX_5 hT) rfl 5 (by decide) (htg _ q_224) (fun _ h9 => h9) rfl (by decide +kernel) rfl rfl (Nat.le_of_ble_eq_true rfl) (hT.up 5 ⟨rfl, (fX_5_1 hT), (fX_5_2 hT), (fX_5_4 hT), (rg_w (rg_add (lo := 2) (hi := 250) (rn_ltu (u' := 249) c_428 (rn_lel c_427 (rn_lel c_426 (rn_ltl (l' := 1) c_428 (fX_5_4 t_425) (fX_5_1 t_425) (by decide)) (fX_5_5 t_425)) (fX_5_4 t_425)) (fX_5_1 t_425) (by decide)) (rg_c (v := 1) (lo := 1) (hi := 1) (by decide)) (by decide)) (by decide))⟩) (fr_st hF (by decide) (by decide)) dX4_advance_239 (fun C_434 H locs e_435 hT hF hP hD hS => ?_)
                            have t_436 := hT
                            rw [hQ]
                            exact W.vret hx hb hr (fun t ht hW => ⟨⟨C_434, rfl, ⟨hT, hF, (Eq.trans (Eq.trans (show gi (C_434 5) 2 = gi (C_431 5) 2 by rw [e_435]; rfl) (show gi (C_431 5) 2 = gi (K123 5) 2 by rw [e_432]; rfl)) hv_123)⟩, ⟨by rw [ht]; exact hP, hD⟩⟩, hS.F ht⟩) hS.2.2 dX4_advance_242
                          · refine lv_iconst (v := 3) hx hb dX4_advance_224 (by decide) ?_
                            refine lv_goto (tgt := 229) hx hb dX4_advance_225 (by decide) ?_
                            refine th_put (Tp := TyX a E) (Rl := fr [(5, 6)] [] C) (ci := 4) (v := .int 3) (ty := .int) (CC := RX4) (T := TX4) (N := 6) hx hb htg ig_4 tyX4 tyX4_ok nmX4 hown hK hP hD hS 5 (by decide) (sX_5 hT) rfl 3 (by decide) (htg _ q_222) (fun _ h9 => h9) rfl (by decide +kernel) rfl rfl (Nat.le_of_ble_eq_true rfl) (hT.up 5 ⟨rfl, (fX_5_1 hT), (fX_5_2 hT), (fX_5_4 hT), (fX_5_5 hT)⟩) (fr_st hF (by decide) (by decide)) dX4_advance_229 (fun C_437 H locs e_438 hT hF hP hD hS => ?_)
                            have t_439 := hT
                            refine lv_aload_n hx hb dX4_advance_232 rfl (lv_at hl 0 rfl) ?_
                            refine lv_aload_n hx hb dX4_advance_233 rfl (lv_at hl 0 rfl) ?_
                            refine va_get (D := D) (ci := 4) (v := .int (gi (K123 5) 4)) (C := RX4) (T := TX4) (N := 6) hx hb htg ig_4 hown hK hP 5 (oh_wg (by decide) (sX_5 hT)) rfl 4 (by decide) (htg _ q_223) (fun _ h9 => h9) (oh_fv (c := C_437 5) (j := 4) rfl (show gi (C_437 5) 4 = gi (K123 5) 4 by rw [e_438]; rfl)) dX4_advance_234 ?_
                            refine lv_iconst (v := 1) hx hb dX4_advance_237 (by decide) ?_
                            refine lv_iadd hx hb dX4_advance_238 ?_
                            refine th_put (Tp := TyX a E) (Rl := fr [(5, 6)] [] C) (ci := 4) (v := .int ((gi (K123 5) 4) + 1)) (ty := .int) (CC := RX4) (T := TX4) (N := 6) hx hb htg ig_4 tyX4 tyX4_ok nmX4 hown hK hP hD hS 5 (by decide) (sX_5 hT) rfl 5 (by decide) (htg _ q_224) (fun _ h9 => h9) rfl (by decide +kernel) rfl rfl (Nat.le_of_ble_eq_true rfl) (hT.up 5 ⟨rfl, (fX_5_1 hT), (fX_5_2 hT), (fX_5_4 hT), (rg_w (rg_add (lo := 2) (hi := 250) (rn_ltu (u' := 249) c_428 (rn_lel c_427 (rn_lel c_426 (rn_ltl (l' := 1) c_428 (fX_5_4 t_425) (fX_5_1 t_425) (by decide)) (fX_5_5 t_425)) (fX_5_4 t_425)) (fX_5_1 t_425) (by decide)) (rg_c (v := 1) (lo := 1) (hi := 1) (by decide)) (by decide)) (by decide))⟩) (fr_st hF (by decide) (by decide)) dX4_advance_239 (fun C_440 H locs e_441 hT hF hP hD hS => ?_)
                            have t_442 := hT
                            rw [hQ]
                            exact W.vret hx hb hr (fun t ht hW => ⟨⟨C_440, rfl, ⟨hT, hF, (Eq.trans (Eq.trans (show gi (C_440 5) 2 = gi (C_437 5) 2 by rw [e_441]; rfl) (show gi (C_437 5) 2 = gi (K123 5) 2 by rw [e_438]; rfl)) hv_123)⟩, ⟨by rw [ht]; exact hP, hD⟩⟩, hS.F ht⟩) hS.2.2 dX4_advance_242
                        · refine lv_aload_n hx hb dX4_advance_203 rfl (lv_at hl 0 rfl) ?_
                          refine lv_iconst (v := 0) hx hb dX4_advance_204 (by decide) ?_
                          refine th_put (Tp := TyX a E) (Rl := fr [(5, 6)] [] C) (ci := 4) (v := .int 0) (ty := .int) (CC := RX4) (T := TX4) (N := 6) hx hb htg ig_4 tyX4 tyX4_ok nmX4 hown hK hP hD hS 5 (by decide) (sX_5 hT) rfl 3 (by decide) (htg _ q_222) (fun _ h9 => h9) rfl (by decide +kernel) rfl rfl (Nat.le_of_ble_eq_true rfl) (hT.up 5 ⟨rfl, (fX_5_1 hT), (fX_5_2 hT), (fX_5_4 hT), (fX_5_5 hT)⟩) (fr_st hF (by decide) (by decide)) dX4_advance_205 (fun C_443 H locs e_444 hT hF hP hD hS => ?_)
                          have t_445 := hT
                          rw [hQ]
                          exact W.vret hx hb hr (fun t ht hW => ⟨⟨C_443, rfl, ⟨hT, hF, (Eq.trans (show gi (C_443 5) 2 = gi (K123 5) 2 by rw [e_444]; rfl) hv_123)⟩, ⟨by rw [ht]; exact hP, hD⟩⟩, hS.F ht⟩) hS.2.2 dX4_advance_208
                      · refine lv_aload_n hx hb dX4_advance_186 rfl (lv_at hl 0 rfl) ?_
                        refine lv_iconst (v := 2) hx hb dX4_advance_187 (by decide) ?_
                        refine th_put (Tp := TyX a E) (Rl := fr [(5, 6)] [] C) (ci := 4) (v := .int 2) (ty := .int) (CC := RX4) (T := TX4) (N := 6) hx hb htg ig_4 tyX4 tyX4_ok nmX4 hown hK hP hD hS 5 (by decide) (sX_5 hT) rfl 3 (by decide) (htg _ q_222) (fun _ h9 => h9) rfl (by decide +kernel) rfl rfl (Nat.le_of_ble_eq_true rfl) (hT.up 5 ⟨rfl, (fX_5_1 hT), (fX_5_2 hT), (fX_5_4 hT), (fX_5_5 hT)⟩) (fr_st hF (by decide) (by decide)) dX4_advance_188 (fun C_446 H locs e_447 hT hF hP hD hS => ?_)
                        have t_448 := hT
                        rw [hQ]
                        exact W.vret hx hb hr (fun t ht hW => ⟨⟨C_446, rfl, ⟨hT, hF, (Eq.trans (show gi (C_446 5) 2 = gi (K123 5) 2 by rw [e_447]; rfl) hv_123)⟩, ⟨by rw [ht]; exact hP, hD⟩⟩, hS.F ht⟩) hS.2.2 dX4_advance_191
                    · refine lv_aload_n hx hb dX4_advance_134 rfl (lv_at hl 0 rfl) ?_
                      refine va_get (D := D) (ci := 4) (v := .ref (a 32)) (C := RX4) (T := TX4) (N := 6) hx hb htg ig_4 hown hK hP 5 (oh_wg (by decide) (sX_5 hT)) rfl 0 (by decide) (htg _ q_217) (fun _ h9 => h9) rfl dX4_advance_135 ?_
                      refine lv_aload_n hx hb dX4_advance_138 rfl (lv_at hl 0 rfl) ?_
                      refine va_get (D := D) (ci := 4) (v := .int (gi (K123 5) 5)) (C := RX4) (T := TX4) (N := 6) hx hb htg ig_4 hown hK hP 5 (oh_wg (by decide) (sX_5 hT)) rfl 5 (by decide) (htg _ q_224) (fun _ h9 => h9) rfl dX4_advance_139 ?_
                      have n_449 : vp_in (gi (K123 5) 5) 250 := (rg_in (rn_ltu (u' := 249) (Int32.not_le.mp c_426) (fX_5_5 t_425) (fX_5_1 t_425) (by decide)) (by decide))
                      refine th_iald hx hb hK hP 32 (by decide) (Eq.trans (Eq.trans (hLF_123.1 32 rfl (by decide)) (Eq.trans (hLF_54.1 32 rfl (by decide)) (Eq.trans (th_un e_258 (by decide)) (Eq.trans (hLF_8.1 32 rfl (by decide)) (th_un e_2 (by decide)))))) (sX_32 hT0)) n_449 dX4_advance_142 ?_
                      refine lv_bipush (v := 48) hx hb dX4_advance_143 (by decide) ?_
                      refine lv_icmp_lt (tgt := 175) hx hb dX4_advance_145 (by decide) (fun (c_450 : (ga (C 32) (gi (K123 5) 5).toNatClampNeg) < 48) => ?_) (fun (c_450 : ¬ ((ga (C 32) (gi (K123 5) 5).toNatClampNeg) < 48)) => ?_)
                      · refine lv_aload_n hx hb dX4_advance_175 rfl (lv_at hl 0 rfl) ?_
                        refine va_get (D := D) (ci := 4) (v := .int (gi (K123 5) 5)) (C := RX4) (T := TX4) (N := 6) hx hb htg ig_4 hown hK hP 5 (oh_wg (by decide) (sX_5 hT)) rfl 5 (by decide) (htg _ q_224) (fun _ h9 => h9) rfl dX4_advance_176 ?_
                        refine lv_aload_n hx hb dX4_advance_179 rfl (lv_at hl 0 rfl) ?_
                        refine va_get (D := D) (ci := 4) (v := .int (gi (K123 5) 4)) (C := RX4) (T := TX4) (N := 6) hx hb htg ig_4 hown hK hP 5 (oh_wg (by decide) (sX_5 hT)) rfl 4 (by decide) (htg _ q_223) (fun _ h9 => h9) rfl dX4_advance_180 ?_
                        refine lv_icmp_le (tgt := 192) hx hb dX4_advance_183 (by decide) (fun (c_451 : (gi (K123 5) 5) ≤ (gi (K123 5) 4)) => ?_) (fun (c_451 : ¬ ((gi (K123 5) 5) ≤ (gi (K123 5) 4))) => ?_)
                        · refine lv_aload_n hx hb dX4_advance_192 rfl (lv_at hl 0 rfl) ?_
                          refine va_get (D := D) (ci := 4) (v := .int (gi (K123 5) 4)) (C := RX4) (T := TX4) (N := 6) hx hb htg ig_4 hown hK hP 5 (oh_wg (by decide) (sX_5 hT)) rfl 4 (by decide) (htg _ q_223) (fun _ h9 => h9) rfl dX4_advance_193 ?_
                          refine lv_aload_n hx hb dX4_advance_196 rfl (lv_at hl 0 rfl) ?_
                          refine va_get (D := D) (ci := 4) (v := .int (gi (K123 5) 1)) (C := RX4) (T := TX4) (N := 6) hx hb htg ig_4 hown hK hP 5 (oh_wg (by decide) (sX_5 hT)) rfl 1 (by decide) (htg _ q_218) (fun _ h9 => h9) rfl dX4_advance_197 ?_
                          refine lv_icmp_lt (tgt := 209) hx hb dX4_advance_200 (by decide) (fun (c_452 : (gi (K123 5) 4) < (gi (K123 5) 1)) => ?_) (fun (c_452 : ¬ ((gi (K123 5) 4) < (gi (K123 5) 1))) => ?_)
                          · refine lv_aload_n hx hb dX4_advance_209 rfl (lv_at hl 0 rfl) ?_
                            refine lv_aload_n hx hb dX4_advance_210 rfl (lv_at hl 0 rfl) ?_
                            refine va_get (D := D) (ci := 4) (v := .ref (a 32)) (C := RX4) (T := TX4) (N := 6) hx hb htg ig_4 hown hK hP 5 (oh_wg (by decide) (sX_5 hT)) rfl 0 (by decide) (htg _ q_217) (fun _ h9 => h9) rfl dX4_advance_211 ?_
                            refine lv_aload_n hx hb dX4_advance_214 rfl (lv_at hl 0 rfl) ?_
                            refine va_get (D := D) (ci := 4) (v := .int (gi (K123 5) 4)) (C := RX4) (T := TX4) (N := 6) hx hb htg ig_4 hown hK hP 5 (oh_wg (by decide) (sX_5 hT)) rfl 4 (by decide) (htg _ q_223) (fun _ h9 => h9) rfl dX4_advance_215 ?_
                            have n_453 : vp_in (gi (K123 5) 4) 250 := (rg_in (rn_ltu (u' := 249) c_452 (fX_5_4 t_425) (rn_ltl (l' := 1) (Int32.not_le.mp c_426) (fX_5_5 t_425) (fX_5_1 t_425) (by decide)) (by decide)) (by decide))
                            refine th_iald hx hb hK hP 32 (by decide) (Eq.trans (Eq.trans (hLF_123.1 32 rfl (by decide)) (Eq.trans (hLF_54.1 32 rfl (by decide)) (Eq.trans (th_un e_258 (by decide)) (Eq.trans (hLF_8.1 32 rfl (by decide)) (th_un e_2 (by decide)))))) (sX_32 hT0)) n_453 dX4_advance_218 ?_
                            refine lv_bipush (v := 59) hx hb dX4_advance_219 (by decide) ?_
                            refine lv_icmp_ne (tgt := 228) hx hb dX4_advance_221 (by decide) (fun (c_454 : ¬ ((ga (C 32) (gi (K123 5) 4).toNatClampNeg) = 59)) => ?_) (fun (c_454 : (ga (C 32) (gi (K123 5) 4).toNatClampNeg) = 59) => ?_)
                            · refine lv_iconst (v := 4) hx hb dX4_advance_228 (by decide) ?_
                              refine th_put (Tp := TyX a E) (Rl := fr [(5, 6)] [] C) (ci := 4) (v := .int 4) (ty := .int) (CC := RX4) (T := TX4) (N := 6) hx hb htg ig_4 tyX4 tyX4_ok nmX4 hown hK hP hD hS 5 (by decide) (sX_5 hT) rfl 3 (by decide) (htg _ q_222) (fun _ h9 => h9) rfl (by decide +kernel) rfl rfl (Nat.le_of_ble_eq_true rfl) (hT.up 5 ⟨rfl, (fX_5_1 hT), (fX_5_2 hT), (fX_5_4 hT), (fX_5_5 hT)⟩) (fr_st hF (by decide) (by decide)) dX4_advance_229 (fun C_455 H locs e_456 hT hF hP hD hS => ?_)
                              have t_457 := hT
                              refine lv_aload_n hx hb dX4_advance_232 rfl (lv_at hl 0 rfl) ?_
                              refine lv_aload_n hx hb dX4_advance_233 rfl (lv_at hl 0 rfl) ?_
                              refine va_get (D := D) (ci := 4) (v := .int (gi (K123 5) 4)) (C := RX4) (T := TX4) (N := 6) hx hb htg ig_4 hown hK hP 5 (oh_wg (by decide) (sX_5 hT)) rfl 4 (by decide) (htg _ q_223) (fun _ h9 => h9) (oh_fv (c := C_455 5) (j := 4) rfl (show gi (C_455 5) 4 = gi (K123 5) 4 by rw [e_456]; rfl)) dX4_advance_234 ?_
                              refine lv_iconst (v := 1) hx hb dX4_advance_237 (by decide) ?_
                              refine lv_iadd hx hb dX4_advance_238 ?_
                              refine th_put (Tp := TyX a E) (Rl := fr [(5, 6)] [] C) (ci := 4) (v := .int ((gi (K123 5) 4) + 1)) (ty := .int) (CC := RX4) (T := TX4) (N := 6) hx hb htg ig_4 tyX4 tyX4_ok nmX4 hown hK hP hD hS 5 (by decide) (sX_5 hT) rfl 5 (by decide) (htg _ q_224) (fun _ h9 => h9) rfl (by decide +kernel) rfl rfl (Nat.le_of_ble_eq_true rfl) (hT.up 5 ⟨rfl, (fX_5_1 hT), (fX_5_2 hT), (fX_5_4 hT), (rg_w (rg_add (lo := 1) (hi := 250) (rn_ltu (u' := 249) c_452 (fX_5_4 t_425) (rn_ltl (l' := 1) (Int32.not_le.mp c_426) (fX_5_5 t_425) (fX_5_1 t_425) (by decide)) (by decide)) (rg_c (v := 1) (lo := 1) (hi := 1) (by decide)) (by decide)) (by decide))⟩) (fr_st hF (by decide) (by decide)) dX4_advance_239 (fun C_458 H locs e_459 hT hF hP hD hS => ?_)
                              have t_460 := hT
                              rw [hQ]
                              exact W.vret hx hb hr (fun t ht hW => ⟨⟨C_458, rfl, ⟨hT, hF, (Eq.trans (Eq.trans (show gi (C_458 5) 2 = gi (C_455 5) 2 by rw [e_459]; rfl) (show gi (C_455 5) 2 = gi (K123 5) 2 by rw [e_456]; rfl)) hv_123)⟩, ⟨by rw [ht]; exact hP, hD⟩⟩, hS.F ht⟩) hS.2.2 dX4_advance_242
                            · refine lv_iconst (v := 3) hx hb dX4_advance_224 (by decide) ?_
                              refine lv_goto (tgt := 229) hx hb dX4_advance_225 (by decide) ?_
                              refine th_put (Tp := TyX a E) (Rl := fr [(5, 6)] [] C) (ci := 4) (v := .int 3) (ty := .int) (CC := RX4) (T := TX4) (N := 6) hx hb htg ig_4 tyX4 tyX4_ok nmX4 hown hK hP hD hS 5 (by decide) (sX_5 hT) rfl 3 (by decide) (htg _ q_222) (fun _ h9 => h9) rfl (by decide +kernel) rfl rfl (Nat.le_of_ble_eq_true rfl) (hT.up 5 ⟨rfl, (fX_5_1 hT), (fX_5_2 hT), (fX_5_4 hT), (fX_5_5 hT)⟩) (fr_st hF (by decide) (by decide)) dX4_advance_229 (fun C_461 H locs e_462 hT hF hP hD hS => ?_)
                              have t_463 := hT
                              refine lv_aload_n hx hb dX4_advance_232 rfl (lv_at hl 0 rfl) ?_
                              refine lv_aload_n hx hb dX4_advance_233 rfl (lv_at hl 0 rfl) ?_
                              refine va_get (D := D) (ci := 4) (v := .int (gi (K123 5) 4)) (C := RX4) (T := TX4) (N := 6) hx hb htg ig_4 hown hK hP 5 (oh_wg (by decide) (sX_5 hT)) rfl 4 (by decide) (htg _ q_223) (fun _ h9 => h9) (oh_fv (c := C_461 5) (j := 4) rfl (show gi (C_461 5) 4 = gi (K123 5) 4 by rw [e_462]; rfl)) dX4_advance_234 ?_
                              refine lv_iconst (v := 1) hx hb dX4_advance_237 (by decide) ?_
                              refine lv_iadd hx hb dX4_advance_238 ?_
                              refine th_put (Tp := TyX a E) (Rl := fr [(5, 6)] [] C) (ci := 4) (v := .int ((gi (K123 5) 4) + 1)) (ty := .int) (CC := RX4) (T := TX4) (N := 6) hx hb htg ig_4 tyX4 tyX4_ok nmX4 hown hK hP hD hS 5 (by decide) (sX_5 hT) rfl 5 (by decide) (htg _ q_224) (fun _ h9 => h9) rfl (by decide +kernel) rfl rfl (Nat.le_of_ble_eq_true rfl) (hT.up 5 ⟨rfl, (fX_5_1 hT), (fX_5_2 hT), (fX_5_4 hT), (rg_w (rg_add (lo := 1) (hi := 250) (rn_ltu (u' := 249) c_452 (fX_5_4 t_425) (rn_ltl (l' := 1) (Int32.not_le.mp c_426) (fX_5_5 t_425) (fX_5_1 t_425) (by decide)) (by decide)) (rg_c (v := 1) (lo := 1) (hi := 1) (by decide)) (by decide)) (by decide))⟩) (fr_st hF (by decide) (by decide)) dX4_advance_239 (fun C_464 H locs e_465 hT hF hP hD hS => ?_)
                              have t_466 := hT
                              rw [hQ]
                              exact W.vret hx hb hr (fun t ht hW => ⟨⟨C_464, rfl, ⟨hT, hF, (Eq.trans (Eq.trans (show gi (C_464 5) 2 = gi (C_461 5) 2 by rw [e_465]; rfl) (show gi (C_461 5) 2 = gi (K123 5) 2 by rw [e_462]; rfl)) hv_123)⟩, ⟨by rw [ht]; exact hP, hD⟩⟩, hS.F ht⟩) hS.2.2 dX4_advance_242
                          · refine lv_aload_n hx hb dX4_advance_203 rfl (lv_at hl 0 rfl) ?_
                            refine lv_iconst (v := 0) hx hb dX4_advance_204 (by decide) ?_
                            refine th_put (Tp := TyX a E) (Rl := fr [(5, 6)] [] C) (ci := 4) (v := .int 0) (ty := .int) (CC := RX4) (T := TX4) (N := 6) hx hb htg ig_4 tyX4 tyX4_ok nmX4 hown hK hP hD hS 5 (by decide) (sX_5 hT) rfl 3 (by decide) (htg _ q_222) (fun _ h9 => h9) rfl (by decide +kernel) rfl rfl (Nat.le_of_ble_eq_true rfl) (hT.up 5 ⟨rfl, (fX_5_1 hT), (fX_5_2 hT), (fX_5_4 hT), (fX_5_5 hT)⟩) (fr_st hF (by decide) (by decide)) dX4_advance_205 (fun C_467 H locs e_468 hT hF hP hD hS => ?_)
                            have t_469 := hT
                            rw [hQ]
                            exact W.vret hx hb hr (fun t ht hW => ⟨⟨C_467, rfl, ⟨hT, hF, (Eq.trans (show gi (C_467 5) 2 = gi (K123 5) 2 by rw [e_468]; rfl) hv_123)⟩, ⟨by rw [ht]; exact hP, hD⟩⟩, hS.F ht⟩) hS.2.2 dX4_advance_208
                        · refine lv_aload_n hx hb dX4_advance_186 rfl (lv_at hl 0 rfl) ?_
                          refine lv_iconst (v := 2) hx hb dX4_advance_187 (by decide) ?_
                          refine th_put (Tp := TyX a E) (Rl := fr [(5, 6)] [] C) (ci := 4) (v := .int 2) (ty := .int) (CC := RX4) (T := TX4) (N := 6) hx hb htg ig_4 tyX4 tyX4_ok nmX4 hown hK hP hD hS 5 (by decide) (sX_5 hT) rfl 3 (by decide) (htg _ q_222) (fun _ h9 => h9) rfl (by decide +kernel) rfl rfl (Nat.le_of_ble_eq_true rfl) (hT.up 5 ⟨rfl, (fX_5_1 hT), (fX_5_2 hT), (fX_5_4 hT), (fX_5_5 hT)⟩) (fr_st hF (by decide) (by decide)) dX4_advance_188 (fun C_470 H locs e_471 hT hF hP hD hS => ?_)
                          have t_472 := hT
                          rw [hQ]
                          exact W.vret hx hb hr (fun t ht hW => ⟨⟨C_470, rfl, ⟨hT, hF, (Eq.trans (show gi (C_470 5) 2 = gi (K123 5) 2 by rw [e_471]; rfl) hv_123)⟩, ⟨by rw [ht]; exact hP, hD⟩⟩, hS.F ht⟩) hS.2.2 dX4_advance_191
                      · refine lv_aload_n hx hb dX4_advance_148 rfl (lv_at hl 0 rfl) ?_
                        refine va_get (D := D) (ci := 4) (v := .ref (a 32)) (C := RX4) (T := TX4) (N := 6) hx hb htg ig_4 hown hK hP 5 (oh_wg (by decide) (sX_5 hT)) rfl 0 (by decide) (htg _ q_217) (fun _ h9 => h9) rfl dX4_advance_149 ?_
                        refine lv_aload_n hx hb dX4_advance_152 rfl (lv_at hl 0 rfl) ?_
                        refine va_get (D := D) (ci := 4) (v := .int (gi (K123 5) 5)) (C := RX4) (T := TX4) (N := 6) hx hb htg ig_4 hown hK hP 5 (oh_wg (by decide) (sX_5 hT)) rfl 5 (by decide) (htg _ q_224) (fun _ h9 => h9) rfl dX4_advance_153 ?_
                        have n_473 : vp_in (gi (K123 5) 5) 250 := (rg_in (rn_ltu (u' := 249) (Int32.not_le.mp c_426) (fX_5_5 t_425) (fX_5_1 t_425) (by decide)) (by decide))
                        refine th_iald hx hb hK hP 32 (by decide) (Eq.trans (Eq.trans (hLF_123.1 32 rfl (by decide)) (Eq.trans (hLF_54.1 32 rfl (by decide)) (Eq.trans (th_un e_258 (by decide)) (Eq.trans (hLF_8.1 32 rfl (by decide)) (th_un e_2 (by decide)))))) (sX_32 hT0)) n_473 dX4_advance_156 ?_
                        refine lv_bipush (v := 57) hx hb dX4_advance_157 (by decide) ?_
                        refine lv_icmp_gt (tgt := 175) hx hb dX4_advance_159 (by decide) (fun (c_474 : (57 : Int32) < (ga (C 32) (gi (K123 5) 5).toNatClampNeg)) => ?_) (fun (c_474 : ¬ ((57 : Int32) < (ga (C 32) (gi (K123 5) 5).toNatClampNeg))) => ?_)
                        · refine lv_aload_n hx hb dX4_advance_175 rfl (lv_at hl 0 rfl) ?_
                          refine va_get (D := D) (ci := 4) (v := .int (gi (K123 5) 5)) (C := RX4) (T := TX4) (N := 6) hx hb htg ig_4 hown hK hP 5 (oh_wg (by decide) (sX_5 hT)) rfl 5 (by decide) (htg _ q_224) (fun _ h9 => h9) rfl dX4_advance_176 ?_
                          refine lv_aload_n hx hb dX4_advance_179 rfl (lv_at hl 0 rfl) ?_
                          refine va_get (D := D) (ci := 4) (v := .int (gi (K123 5) 4)) (C := RX4) (T := TX4) (N := 6) hx hb htg ig_4 hown hK hP 5 (oh_wg (by decide) (sX_5 hT)) rfl 4 (by decide) (htg _ q_223) (fun _ h9 => h9) rfl dX4_advance_180 ?_
                          refine lv_icmp_le (tgt := 192) hx hb dX4_advance_183 (by decide) (fun (c_475 : (gi (K123 5) 5) ≤ (gi (K123 5) 4)) => ?_) (fun (c_475 : ¬ ((gi (K123 5) 5) ≤ (gi (K123 5) 4))) => ?_)
                          · refine lv_aload_n hx hb dX4_advance_192 rfl (lv_at hl 0 rfl) ?_
                            refine va_get (D := D) (ci := 4) (v := .int (gi (K123 5) 4)) (C := RX4) (T := TX4) (N := 6) hx hb htg ig_4 hown hK hP 5 (oh_wg (by decide) (sX_5 hT)) rfl 4 (by decide) (htg _ q_223) (fun _ h9 => h9) rfl dX4_advance_193 ?_
                            refine lv_aload_n hx hb dX4_advance_196 rfl (lv_at hl 0 rfl) ?_
                            refine va_get (D := D) (ci := 4) (v := .int (gi (K123 5) 1)) (C := RX4) (T := TX4) (N := 6) hx hb htg ig_4 hown hK hP 5 (oh_wg (by decide) (sX_5 hT)) rfl 1 (by decide) (htg _ q_218) (fun _ h9 => h9) rfl dX4_advance_197 ?_
                            refine lv_icmp_lt (tgt := 209) hx hb dX4_advance_200 (by decide) (fun (c_476 : (gi (K123 5) 4) < (gi (K123 5) 1)) => ?_) (fun (c_476 : ¬ ((gi (K123 5) 4) < (gi (K123 5) 1))) => ?_)
                            · refine lv_aload_n hx hb dX4_advance_209 rfl (lv_at hl 0 rfl) ?_
                              refine lv_aload_n hx hb dX4_advance_210 rfl (lv_at hl 0 rfl) ?_
                              refine va_get (D := D) (ci := 4) (v := .ref (a 32)) (C := RX4) (T := TX4) (N := 6) hx hb htg ig_4 hown hK hP 5 (oh_wg (by decide) (sX_5 hT)) rfl 0 (by decide) (htg _ q_217) (fun _ h9 => h9) rfl dX4_advance_211 ?_
                              refine lv_aload_n hx hb dX4_advance_214 rfl (lv_at hl 0 rfl) ?_
                              refine va_get (D := D) (ci := 4) (v := .int (gi (K123 5) 4)) (C := RX4) (T := TX4) (N := 6) hx hb htg ig_4 hown hK hP 5 (oh_wg (by decide) (sX_5 hT)) rfl 4 (by decide) (htg _ q_223) (fun _ h9 => h9) rfl dX4_advance_215 ?_
                              have n_477 : vp_in (gi (K123 5) 4) 250 := (rg_in (rn_ltu (u' := 249) c_476 (fX_5_4 t_425) (rn_ltl (l' := 1) (Int32.not_le.mp c_426) (fX_5_5 t_425) (fX_5_1 t_425) (by decide)) (by decide)) (by decide))
                              refine th_iald hx hb hK hP 32 (by decide) (Eq.trans (Eq.trans (hLF_123.1 32 rfl (by decide)) (Eq.trans (hLF_54.1 32 rfl (by decide)) (Eq.trans (th_un e_258 (by decide)) (Eq.trans (hLF_8.1 32 rfl (by decide)) (th_un e_2 (by decide)))))) (sX_32 hT0)) n_477 dX4_advance_218 ?_
                              refine lv_bipush (v := 59) hx hb dX4_advance_219 (by decide) ?_
                              refine lv_icmp_ne (tgt := 228) hx hb dX4_advance_221 (by decide) (fun (c_478 : ¬ ((ga (C 32) (gi (K123 5) 4).toNatClampNeg) = 59)) => ?_) (fun (c_478 : (ga (C 32) (gi (K123 5) 4).toNatClampNeg) = 59) => ?_)
                              · refine lv_iconst (v := 4) hx hb dX4_advance_228 (by decide) ?_
                                refine th_put (Tp := TyX a E) (Rl := fr [(5, 6)] [] C) (ci := 4) (v := .int 4) (ty := .int) (CC := RX4) (T := TX4) (N := 6) hx hb htg ig_4 tyX4 tyX4_ok nmX4 hown hK hP hD hS 5 (by decide) (sX_5 hT) rfl 3 (by decide) (htg _ q_222) (fun _ h9 => h9) rfl (by decide +kernel) rfl rfl (Nat.le_of_ble_eq_true rfl) (hT.up 5 ⟨rfl, (fX_5_1 hT), (fX_5_2 hT), (fX_5_4 hT), (fX_5_5 hT)⟩) (fr_st hF (by decide) (by decide)) dX4_advance_229 (fun C_479 H locs e_480 hT hF hP hD hS => ?_)
                                have t_481 := hT
                                refine lv_aload_n hx hb dX4_advance_232 rfl (lv_at hl 0 rfl) ?_
                                refine lv_aload_n hx hb dX4_advance_233 rfl (lv_at hl 0 rfl) ?_
                                refine va_get (D := D) (ci := 4) (v := .int (gi (K123 5) 4)) (C := RX4) (T := TX4) (N := 6) hx hb htg ig_4 hown hK hP 5 (oh_wg (by decide) (sX_5 hT)) rfl 4 (by decide) (htg _ q_223) (fun _ h9 => h9) (oh_fv (c := C_479 5) (j := 4) rfl (show gi (C_479 5) 4 = gi (K123 5) 4 by rw [e_480]; rfl)) dX4_advance_234 ?_
                                refine lv_iconst (v := 1) hx hb dX4_advance_237 (by decide) ?_
                                refine lv_iadd hx hb dX4_advance_238 ?_
                                refine th_put (Tp := TyX a E) (Rl := fr [(5, 6)] [] C) (ci := 4) (v := .int ((gi (K123 5) 4) + 1)) (ty := .int) (CC := RX4) (T := TX4) (N := 6) hx hb htg ig_4 tyX4 tyX4_ok nmX4 hown hK hP hD hS 5 (by decide) (sX_5 hT) rfl 5 (by decide) (htg _ q_224) (fun _ h9 => h9) rfl (by decide +kernel) rfl rfl (Nat.le_of_ble_eq_true rfl) (hT.up 5 ⟨rfl, (fX_5_1 hT), (fX_5_2 hT), (fX_5_4 hT), (rg_w (rg_add (lo := 1) (hi := 250) (rn_ltu (u' := 249) c_476 (fX_5_4 t_425) (rn_ltl (l' := 1) (Int32.not_le.mp c_426) (fX_5_5 t_425) (fX_5_1 t_425) (by decide)) (by decide)) (rg_c (v := 1) (lo := 1) (hi := 1) (by decide)) (by decide)) (by decide))⟩) (fr_st hF (by decide) (by decide)) dX4_advance_239 (fun C_482 H locs e_483 hT hF hP hD hS => ?_)
                                have t_484 := hT
                                rw [hQ]
                                exact W.vret hx hb hr (fun t ht hW => ⟨⟨C_482, rfl, ⟨hT, hF, (Eq.trans (Eq.trans (show gi (C_482 5) 2 = gi (C_479 5) 2 by rw [e_483]; rfl) (show gi (C_479 5) 2 = gi (K123 5) 2 by rw [e_480]; rfl)) hv_123)⟩, ⟨by rw [ht]; exact hP, hD⟩⟩, hS.F ht⟩) hS.2.2 dX4_advance_242
                              · refine lv_iconst (v := 3) hx hb dX4_advance_224 (by decide) ?_
                                refine lv_goto (tgt := 229) hx hb dX4_advance_225 (by decide) ?_
                                refine th_put (Tp := TyX a E) (Rl := fr [(5, 6)] [] C) (ci := 4) (v := .int 3) (ty := .int) (CC := RX4) (T := TX4) (N := 6) hx hb htg ig_4 tyX4 tyX4_ok nmX4 hown hK hP hD hS 5 (by decide) (sX_5 hT) rfl 3 (by decide) (htg _ q_222) (fun _ h9 => h9) rfl (by decide +kernel) rfl rfl (Nat.le_of_ble_eq_true rfl) (hT.up 5 ⟨rfl, (fX_5_1 hT), (fX_5_2 hT), (fX_5_4 hT), (fX_5_5 hT)⟩) (fr_st hF (by decide) (by decide)) dX4_advance_229 (fun C_485 H locs e_486 hT hF hP hD hS => ?_)
                                have t_487 := hT
                                refine lv_aload_n hx hb dX4_advance_232 rfl (lv_at hl 0 rfl) ?_
                                refine lv_aload_n hx hb dX4_advance_233 rfl (lv_at hl 0 rfl) ?_
                                refine va_get (D := D) (ci := 4) (v := .int (gi (K123 5) 4)) (C := RX4) (T := TX4) (N := 6) hx hb htg ig_4 hown hK hP 5 (oh_wg (by decide) (sX_5 hT)) rfl 4 (by decide) (htg _ q_223) (fun _ h9 => h9) (oh_fv (c := C_485 5) (j := 4) rfl (show gi (C_485 5) 4 = gi (K123 5) 4 by rw [e_486]; rfl)) dX4_advance_234 ?_
                                refine lv_iconst (v := 1) hx hb dX4_advance_237 (by decide) ?_
                                refine lv_iadd hx hb dX4_advance_238 ?_
                                refine th_put (Tp := TyX a E) (Rl := fr [(5, 6)] [] C) (ci := 4) (v := .int ((gi (K123 5) 4) + 1)) (ty := .int) (CC := RX4) (T := TX4) (N := 6) hx hb htg ig_4 tyX4 tyX4_ok nmX4 hown hK hP hD hS 5 (by decide) (sX_5 hT) rfl 5 (by decide) (htg _ q_224) (fun _ h9 => h9) rfl (by decide +kernel) rfl rfl (Nat.le_of_ble_eq_true rfl) (hT.up 5 ⟨rfl, (fX_5_1 hT), (fX_5_2 hT), (fX_5_4 hT), (rg_w (rg_add (lo := 1) (hi := 250) (rn_ltu (u' := 249) c_476 (fX_5_4 t_425) (rn_ltl (l' := 1) (Int32.not_le.mp c_426) (fX_5_5 t_425) (fX_5_1 t_425) (by decide)) (by decide)) (rg_c (v := 1) (lo := 1) (hi := 1) (by decide)) (by decide)) (by decide))⟩) (fr_st hF (by decide) (by decide)) dX4_advance_239 (fun C_488 H locs e_489 hT hF hP hD hS => ?_)
                                have t_490 := hT
                                rw [hQ]
                                exact W.vret hx hb hr (fun t ht hW => ⟨⟨C_488, rfl, ⟨hT, hF, (Eq.trans (Eq.trans (show gi (C_488 5) 2 = gi (C_485 5) 2 by rw [e_489]; rfl) (show gi (C_485 5) 2 = gi (K123 5) 2 by rw [e_486]; rfl)) hv_123)⟩, ⟨by rw [ht]; exact hP, hD⟩⟩, hS.F ht⟩) hS.2.2 dX4_advance_242
                            · refine lv_aload_n hx hb dX4_advance_203 rfl (lv_at hl 0 rfl) ?_
                              refine lv_iconst (v := 0) hx hb dX4_advance_204 (by decide) ?_
                              refine th_put (Tp := TyX a E) (Rl := fr [(5, 6)] [] C) (ci := 4) (v := .int 0) (ty := .int) (CC := RX4) (T := TX4) (N := 6) hx hb htg ig_4 tyX4 tyX4_ok nmX4 hown hK hP hD hS 5 (by decide) (sX_5 hT) rfl 3 (by decide) (htg _ q_222) (fun _ h9 => h9) rfl (by decide +kernel) rfl rfl (Nat.le_of_ble_eq_true rfl) (hT.up 5 ⟨rfl, (fX_5_1 hT), (fX_5_2 hT), (fX_5_4 hT), (fX_5_5 hT)⟩) (fr_st hF (by decide) (by decide)) dX4_advance_205 (fun C_491 H locs e_492 hT hF hP hD hS => ?_)
                              have t_493 := hT
                              rw [hQ]
                              exact W.vret hx hb hr (fun t ht hW => ⟨⟨C_491, rfl, ⟨hT, hF, (Eq.trans (show gi (C_491 5) 2 = gi (K123 5) 2 by rw [e_492]; rfl) hv_123)⟩, ⟨by rw [ht]; exact hP, hD⟩⟩, hS.F ht⟩) hS.2.2 dX4_advance_208
                          · refine lv_aload_n hx hb dX4_advance_186 rfl (lv_at hl 0 rfl) ?_
                            refine lv_iconst (v := 2) hx hb dX4_advance_187 (by decide) ?_
                            refine th_put (Tp := TyX a E) (Rl := fr [(5, 6)] [] C) (ci := 4) (v := .int 2) (ty := .int) (CC := RX4) (T := TX4) (N := 6) hx hb htg ig_4 tyX4 tyX4_ok nmX4 hown hK hP hD hS 5 (by decide) (sX_5 hT) rfl 3 (by decide) (htg _ q_222) (fun _ h9 => h9) rfl (by decide +kernel) rfl rfl (Nat.le_of_ble_eq_true rfl) (hT.up 5 ⟨rfl, (fX_5_1 hT), (fX_5_2 hT), (fX_5_4 hT), (fX_5_5 hT)⟩) (fr_st hF (by decide) (by decide)) dX4_advance_188 (fun C_494 H locs e_495 hT hF hP hD hS => ?_)
                            have t_496 := hT
                            rw [hQ]
                            exact W.vret hx hb hr (fun t ht hW => ⟨⟨C_494, rfl, ⟨hT, hF, (Eq.trans (show gi (C_494 5) 2 = gi (K123 5) 2 by rw [e_495]; rfl) hv_123)⟩, ⟨by rw [ht]; exact hP, hD⟩⟩, hS.F ht⟩) hS.2.2 dX4_advance_191
                        · refine lv_aload_n hx hb dX4_advance_162 rfl (lv_at hl 0 rfl) ?_
                          refine lv_dup hx hb dX4_advance_163 rfl ?_
                          refine va_get (D := D) (ci := 4) (v := .int (gi (K123 5) 5)) (C := RX4) (T := TX4) (N := 6) hx hb htg ig_4 hown hK hP 5 (oh_wg (by decide) (sX_5 hT)) rfl 5 (by decide) (htg _ q_224) (fun _ h9 => h9) rfl dX4_advance_164 ?_
                          refine lv_iconst (v := 1) hx hb dX4_advance_167 (by decide) ?_
                          refine lv_iadd hx hb dX4_advance_168 ?_
                          refine th_put (Tp := TyX a E) (Rl := fr [(5, 6)] [] C) (ci := 4) (v := .int ((gi (K123 5) 5) + 1)) (ty := .int) (CC := RX4) (T := TX4) (N := 6) hx hb htg ig_4 tyX4 tyX4_ok nmX4 hown hK hP hD hS 5 (by decide) (sX_5 hT) rfl 5 (by decide) (htg _ q_224) (fun _ h9 => h9) rfl (by decide +kernel) rfl rfl (Nat.le_of_ble_eq_true rfl) (hT.up 5 ⟨rfl, (fX_5_1 hT), (fX_5_2 hT), (fX_5_4 hT), (rg_w (rg_add (lo := 1) (hi := 250) (rn_ltu (u' := 249) (Int32.not_le.mp c_426) (fX_5_5 t_425) (fX_5_1 t_425) (by decide)) (rg_c (v := 1) (lo := 1) (hi := 1) (by decide)) (by decide)) (by decide))⟩) (fr_st hF (by decide) (by decide)) dX4_advance_169 (fun C_497 H locs e_498 hT hF hP hD hS => ?_)
                          have t_499 := hT
                          refine lv_goto (tgt := 123) hx hb dX4_advance_172 (by decide) ?_
                          exact ih_123 _ (hd_123 ▸ (by rw [(show gi (C_497 5) 5 = ((gi (K123 5) 5) + 1) by rw [e_498]; rfl)]; exact mu_up 250 (rn_ltu (u' := 249) (Int32.not_le.mp c_426) (fX_5_5 t_425) (fX_5_1 t_425) (by decide)) (by decide))) C_497  _ _ ls rfl (Eq.trans (show gi (C_497 5) 2 = gi (K123 5) 2 by rw [e_498]; rfl) hv_123) hT hF (fr_ste hLF_123 e_498 (by decide) (by decide)) hP hD hS (lv_sub hl [0] rfl)
                  exact L_123 _ K54  _ _ ls rfl (Eq.trans rfl hv_54) hT hF fr_rf hP hD hS (lv_sub hl [0] rfl)
                · refine lv_aload_n hx hb dX4_advance_117 rfl (lv_at hl 0 rfl) ?_
                  refine lv_iconst (v := 1) hx hb dX4_advance_118 (by decide) ?_
                  refine th_put (Tp := TyX a E) (Rl := fr [(5, 6)] [] C) (ci := 4) (v := .int 1) (ty := .int) (CC := RX4) (T := TX4) (N := 6) hx hb htg ig_4 tyX4 tyX4_ok nmX4 hown hK hP hD hS 5 (by decide) (sX_5 hT) rfl 3 (by decide) (htg _ q_222) (fun _ h9 => h9) rfl (by decide +kernel) rfl rfl (Nat.le_of_ble_eq_true rfl) (hT.up 5 ⟨rfl, (fX_5_1 hT), (fX_5_2 hT), (fX_5_4 hT), (fX_5_5 hT)⟩) (fr_st hF (by decide) (by decide)) dX4_advance_119 (fun C_500 H locs e_501 hT hF hP hD hS => ?_)
                  have t_502 := hT
                  rw [hQ]
                  exact W.vret hx hb hr (fun t ht hW => ⟨⟨C_500, rfl, ⟨hT, hF, (Eq.trans (show gi (C_500 5) 2 = gi (K54 5) 2 by rw [e_501]; rfl) hv_54)⟩, ⟨by rw [ht]; exact hP, hD⟩⟩, hS.F ht⟩) hS.2.2 dX4_advance_122
              · refine lv_aload_n hx hb dX4_advance_93 rfl (lv_at hl 0 rfl) ?_
                refine lv_dup hx hb dX4_advance_94 rfl ?_
                refine va_get (D := D) (ci := 4) (v := .int (gi (K54 5) 5)) (C := RX4) (T := TX4) (N := 6) hx hb htg ig_4 hown hK hP 5 (oh_wg (by decide) (sX_5 hT)) rfl 5 (by decide) (htg _ q_224) (fun _ h9 => h9) rfl dX4_advance_95 ?_
                refine lv_iconst (v := 1) hx hb dX4_advance_98 (by decide) ?_
                refine lv_iadd hx hb dX4_advance_99 ?_
                refine th_put (Tp := TyX a E) (Rl := fr [(5, 6)] [] C) (ci := 4) (v := .int ((gi (K54 5) 5) + 1)) (ty := .int) (CC := RX4) (T := TX4) (N := 6) hx hb htg ig_4 tyX4 tyX4_ok nmX4 hown hK hP hD hS 5 (by decide) (sX_5 hT) rfl 5 (by decide) (htg _ q_224) (fun _ h9 => h9) rfl (by decide +kernel) rfl rfl (Nat.le_of_ble_eq_true rfl) (hT.up 5 ⟨rfl, (fX_5_1 hT), (fX_5_2 hT), (fX_5_4 hT), (rg_w (rg_add (lo := 1) (hi := 250) (rn_ltu (u' := 249) (Int32.not_le.mp c_261) (fX_5_5 t_260) (fX_5_1 t_260) (by decide)) (rg_c (v := 1) (lo := 1) (hi := 1) (by decide)) (by decide)) (by decide))⟩) (fr_st hF (by decide) (by decide)) dX4_advance_100 (fun C_503 H locs e_504 hT hF hP hD hS => ?_)
                have t_505 := hT
                refine lv_goto (tgt := 54) hx hb dX4_advance_103 (by decide) ?_
                exact ih_54 _ (hd_54 ▸ (by rw [(show gi (C_503 5) 5 = ((gi (K54 5) 5) + 1) by rw [e_504]; rfl)]; exact mu_up 250 (rn_ltu (u' := 249) (Int32.not_le.mp c_261) (fX_5_5 t_260) (fX_5_1 t_260) (by decide)) (by decide))) C_503  _ _ ls rfl (Eq.trans (show gi (C_503 5) 2 = gi (K54 5) 2 by rw [e_504]; rfl) hv_54) hT hF (fr_ste hLF_54 e_504 (by decide) (by decide)) hP hD hS (lv_sub hl [0] rfl)
        exact L_54 _ C_257  _ _ ls rfl (Eq.trans (show gi (C_257 5) 2 = gi (K8 5) 2 by rw [e_258]; rfl) hv_8) hT hF fr_rf hP hD hS (lv_sub hl [0] rfl)
      · refine lv_aload_n hx hb dX4_advance_33 rfl (lv_at hl 0 rfl) ?_
        refine lv_dup hx hb dX4_advance_34 rfl ?_
        refine va_get (D := D) (ci := 4) (v := .int (gi (K8 5) 4)) (C := RX4) (T := TX4) (N := 6) hx hb htg ig_4 hown hK hP 5 (oh_wg (by decide) (sX_5 hT)) rfl 4 (by decide) (htg _ q_223) (fun _ h9 => h9) rfl dX4_advance_35 ?_
        refine lv_iconst (v := 1) hx hb dX4_advance_38 (by decide) ?_
        refine lv_iadd hx hb dX4_advance_39 ?_
        refine th_put (Tp := TyX a E) (Rl := fr [(5, 6)] [] C) (ci := 4) (v := .int ((gi (K8 5) 4) + 1)) (ty := .int) (CC := RX4) (T := TX4) (N := 6) hx hb htg ig_4 tyX4 tyX4_ok nmX4 hown hK hP hD hS 5 (by decide) (sX_5 hT) rfl 4 (by decide) (htg _ q_223) (fun _ h9 => h9) rfl (by decide +kernel) rfl rfl (Nat.le_of_ble_eq_true rfl) (hT.up 5 ⟨rfl, (fX_5_1 hT), (fX_5_2 hT), (rg_w (rg_add (lo := 1) (hi := 250) (rn_ltu (u' := 249) (Int32.not_le.mp c_5) (fX_5_4 t_4) (fX_5_1 t_4) (by decide)) (rg_c (v := 1) (lo := 1) (hi := 1) (by decide)) (by decide)) (by decide)), (fX_5_5 hT)⟩) (fr_st hF (by decide) (by decide)) dX4_advance_40 (fun C_506 H locs e_507 hT hF hP hD hS => ?_)
        have t_508 := hT
        refine lv_goto (tgt := 8) hx hb dX4_advance_43 (by decide) ?_
        exact ih_8 _ (hd_8 ▸ (by rw [(show gi (C_506 5) 4 = ((gi (K8 5) 4) + 1) by rw [e_507]; rfl)]; exact mu_up 250 (rn_ltu (u' := 249) (Int32.not_le.mp c_5) (fX_5_4 t_4) (fX_5_1 t_4) (by decide)) (by decide))) C_506  _ _ ls rfl (Eq.trans (show gi (C_506 5) 2 = gi (K8 5) 2 by rw [e_507]; rfl) hv_8) hT hF (fr_ste hLF_8 e_507 (by decide) (by decide)) hP hD hS (lv_sub hl [0] rfl)
  exact L_8 _ C_1  _ _ ls rfl (show gi (C_1 5) 2 = gi (C 5) 2 by rw [e_2]; rfl) hT hF fr_rf hP hD hS (lv_sub hl [0] rfl)

set_option maxHeartbeats 4000000 in
set_option maxRecDepth 100000 in
theorem c_X4_rewind (l : Launch) (D : va_G) (E : Nat → ClassId) (G : Nat → Nat) (sz : Nat) (a : Nat → Nat) (C : Nat → va_E) (hT : TyX a E C) : Met l yX4_rewind (oh_w yX4_rewind cX4_rewind 1 none) ({ frames := 1, cells := 0, slots := 0, locals := 20 }) (oh_Pm D E G [.ref (a 5)] (oh_W 35 a C) sz) (va_Qv (fun (u : Nat → va_E) => TyX a E u ∧ fr [(5, 6)] [] C u ∧ True) (oh_B D (va_A (oh_W 35 a C) sz) (fun u => oh_W 35 a u)) (va_A (oh_W 35 a C) sz)) 0 0 (va_A (oh_W 35 a C) sz) := by
  refine Met.ofW (cc := cX4_rewind) (maxL := 1) (ret := none) (by decide) rfl ?_
  intro p e s m args below meth c s₁ B hml hv
  obtain ⟨rfl, hsz, hP, hK, hD0, hG⟩ := hv
  have hx := B.exec
  have hb := B.bytes
  have hr := B.returns
  have hts := atoms_spec (ws := (oh_w yX4_rewind cX4_rewind 1 none)) B.pre
  have htg : ∀ w ∈ oh_t, w.before _ s = true := fun w h => hts w (List.mem_cons_of_mem _ h)
  have hown : s.vm.findClass RX4 = some m.cls := findClass_of_methodNamed B.named
  have hlocks := B.notSynchronized
  have hT0 := hT
  subst hsz
  have hD := hD0.self (sz := s.heap.size)
  generalize hAe : va_A (oh_W 35 a C) s.heap.size = A at hD hG ⊢
  have hA : ∀ q : Nat, s.heap.size ≤ q → A q := fun q h => by rw [← hAe]; exact Or.inr h
  have hS : va_S A s.heap s.heap [] := va_S.rf
  have hF : fr [(5, 6)] [] C C := fr_rf
  have hl := lv_entry ([.ref (a 5)]) (n := 1) (Nat.le_of_ble_eq_true rfl)
  rw [lg_entry_eq]
  generalize (lg_sl ([.ref (a 5)]) ++ List.replicate (1 - (lg_sl ([.ref (a 5)])).length) Slot.unset).toArray = ls at hl ⊢
  have hl : lv_has ls 1 [(0, .ref (a 5))] := hl
  refine oh_genQ (fun Q hQ => ?_)
  refine lv_aload_n hx hb dX4_rewind_0 rfl (lv_at hl 0 rfl) ?_
  refine lv_iconst (v := (-1)) hx hb dX4_rewind_1 (by decide) ?_
  refine th_put (Tp := TyX a E) (Rl := fr [(5, 6)] [] C) (ci := 4) (v := .int (-1)) (ty := .int) (CC := RX4) (T := TX4) (N := 6) hx hb htg ig_4 tyX4 tyX4_ok nmX4 hown hK hP hD hS 5 (by decide) (sX_5 hT) rfl 2 (by decide) (htg _ q_220) (fun _ h9 => h9) rfl (by decide +kernel) rfl rfl (Nat.le_of_ble_eq_true rfl) (hT.up 5 ⟨rfl, (fX_5_1 hT), (rg_w (rg_c (v := (-1)) (lo := (-1)) (hi := (-1)) (by decide)) (by decide)), (fX_5_4 hT), (fX_5_5 hT)⟩) (fr_st hF (by decide) (by decide)) dX4_rewind_2 (fun C_1 H locs e_2 hT hF hP hD hS => ?_)
  have t_3 := hT
  refine lv_aload_n hx hb dX4_rewind_5 rfl (lv_at hl 0 rfl) ?_
  refine lv_iconst (v := 0) hx hb dX4_rewind_6 (by decide) ?_
  refine th_put (Tp := TyX a E) (Rl := fr [(5, 6)] [] C) (ci := 4) (v := .int 0) (ty := .int) (CC := RX4) (T := TX4) (N := 6) hx hb htg ig_4 tyX4 tyX4_ok nmX4 hown hK hP hD hS 5 (by decide) (sX_5 hT) rfl 5 (by decide) (htg _ q_224) (fun _ h9 => h9) rfl (by decide +kernel) rfl rfl (Nat.le_of_ble_eq_true rfl) (hT.up 5 ⟨rfl, (fX_5_1 hT), (fX_5_2 hT), (fX_5_4 hT), (rg_w (rg_c (v := 0) (lo := 0) (hi := 0) (by decide)) (by decide))⟩) (fr_st hF (by decide) (by decide)) dX4_rewind_7 (fun C_4 H locs e_5 hT hF hP hD hS => ?_)
  have t_6 := hT
  refine lv_aload_n hx hb dX4_rewind_10 rfl (lv_at hl 0 rfl) ?_
  refine tm_Vv (As := []) (rest := []) ⟨hx, hb, hml, hown, htg⟩ (c_X4_advance l D E G _ a C_4 hT) (cwV 0 htg (oh_gV q_508 q_509 q_510 q_71 q_511) rfl rfl rfl pdVX4_advance ⟨Nat.le_of_ble_eq_true rfl, Nat.le_of_ble_eq_true rfl⟩) hK hP hD hG hS hA (va_recv hK hP (ci := 4) (q0 := 5) rfl (oh_wg (by decide) (sX_5 hT))) rfl hl.1 rfl (Nat.le_of_ble_eq_true rfl) dX4_rewind_11 ⟨Nat.le_of_ble_eq_true rfl, Nat.le_of_ble_eq_true rfl⟩ (fun C_8 H locs hq_9 hP hD hS => ?_)
  obtain ⟨hT, f_10, hq_9⟩ := hq_9
  have hF := fr_tr hF f_10 (by decide) (by decide)
  refine W.widen (k := 0) (n := 0) (Nat.le_refl _) (Nat.le_refl _) ?_
  have t_11 := hT
  rw [hQ]
  exact W.vret hx hb hr (fun t ht hW => ⟨⟨C_8, rfl, ⟨hT, hF, trivial⟩, ⟨by rw [ht]; exact hP, hD⟩⟩, hS.F ht⟩) hS.2.2 dX4_rewind_14

theorem oh_wix {a b i n : Int32} (hb : rg b 0 250) (ha : rg a 0 250) (e : b - a = n) (h0 : rg i 0 6) (c : i < n) : vp_in (a + i) 250 := by
  have h1 := Int32.lt_iff_toInt_lt.mp c
  have e1 : (b - a).toInt = b.toInt - a.toInt := by
    rw [Int32.toInt_sub]
    exact oh_bmod (by have := hb.1; have := ha.2; omega) (by have := hb.2; have := ha.1; omega)
  rw [e] at e1
  have e2 : (a + i).toInt = a.toInt + i.toInt := by
    rw [Int32.toInt_add]
    exact oh_bmod (by have := ha.1; have := h0.1; omega) (by have := ha.2; have := h0.2; omega)
  refine vp_in_iff.mpr ⟨?_, ?_⟩
  · rw [e2]; have := ha.1; have := h0.1; omega
  · rw [e2]; have := hb.2; omega

set_option maxHeartbeats 4000000 in
set_option maxRecDepth 100000 in
theorem c_X4_isWord (l : Launch) (D : va_G) (E : Nat → ClassId) (G : Nat → Nat) (a : Nat → Nat) (C : Nat → va_E) (hT : TyX a E C) (j : Nat) (hj : j < 34) : Met l yX4_isWord (oh_w yX4_isWord cX4_isWord 3 (some .boolean)) ({ frames := 4, cells := 0, slots := 0, locals := 85 }) (oh_Pp D E G [.ref (a 5), .ref (G (3 + j))] (oh_W 35 a C)) (vp_Si (fun r => (r = 0 ∨ r = 1))) 0 0 (fun _ => False) := by
  refine Met.ofW (cc := cX4_isWord) (maxL := 3) (ret := (some .boolean)) (by decide) rfl ?_
  intro p e s m args below meth c s₁ B hml hv
  obtain ⟨rfl, hP, hK, hG⟩ := hv
  have hx := B.exec
  have hb := B.bytes
  have hr := B.returns
  have hts := atoms_spec (ws := (oh_w yX4_isWord cX4_isWord 3 (some .boolean))) B.pre
  have htg : ∀ w ∈ oh_t, w.before _ s = true := fun w h => hts w (List.mem_cons_of_mem _ h)
  have hown : s.vm.findClass RX4 = some m.cls := findClass_of_methodNamed B.named
  have hlocks := B.notSynchronized
  have hT0 := hT
  have hS : va_S (fun _ => False) s.heap s.heap [] := va_S.rf
  have hl := lv_entry ([.ref (a 5), .ref (G (3 + j))]) (n := 3) (Nat.le_of_ble_eq_true rfl)
  rw [lg_entry_eq]
  generalize (lg_sl ([.ref (a 5), .ref (G (3 + j))]) ++ List.replicate (3 - (lg_sl ([.ref (a 5), .ref (G (3 + j))])).length) Slot.unset).toArray = ls at hl ⊢
  have hl : lv_has ls 3 [(0, .ref (a 5)), (1, .ref (G (3 + j)))] := hl
  refine oh_genQ (fun Q hQ => ?_)
  refine lv_aload_n hx hb dX4_isWord_0 rfl (lv_at hl 0 rfl) ?_
  refine va_get (D := D) (ci := 4) (v := .int (gi (C 5) 2)) (C := RX4) (T := TX4) (N := 6) hx hb htg ig_4 hown hK hP 5 (oh_wg (by decide) (sX_5 hT)) rfl 2 (by decide) (htg _ q_220) (fun _ h9 => h9) rfl dX4_isWord_1 ?_
  refine lv_iconst (v := (-1)) hx hb dX4_isWord_4 (by decide) ?_
  refine lv_icmp_ne (tgt := 32) hx hb dX4_isWord_5 (by decide) (fun (c_1 : ¬ ((gi (C 5) 2) = (-1))) => ?_) (fun (c_1 : (gi (C 5) 2) = (-1)) => ?_)
  · refine lv_iconst (v := 0) hx hb dX4_isWord_32 (by decide) ?_
    rw [hQ]
    exact W.zret (v := 0) (ty := .boolean) hx hb hr (by decide) (fun t ht hW => ⟨0, rfl, (Or.inl rfl), ht⟩) (fun q h => by cases h) dX4_isWord_33
  · refine lv_aload_n hx hb dX4_isWord_8 rfl (lv_at hl 0 rfl) ?_
    refine va_get (D := D) (ci := 4) (v := .int (gi (C 5) 3)) (C := RX4) (T := TX4) (N := 6) hx hb htg ig_4 hown hK hP 5 (oh_wg (by decide) (sX_5 hT)) rfl 3 (by decide) (htg _ q_222) (fun _ h9 => h9) rfl dX4_isWord_9 ?_
    refine lv_iconst (v := 1) hx hb dX4_isWord_12 (by decide) ?_
    refine lv_icmp_ne (tgt := 32) hx hb dX4_isWord_13 (by decide) (fun (c_2 : ¬ ((gi (C 5) 3) = 1)) => ?_) (fun (c_2 : (gi (C 5) 3) = 1) => ?_)
    · refine lv_iconst (v := 0) hx hb dX4_isWord_32 (by decide) ?_
      rw [hQ]
      exact W.zret (v := 0) (ty := .boolean) hx hb hr (by decide) (fun t ht hW => ⟨0, rfl, (Or.inl rfl), ht⟩) (fun q h => by cases h) dX4_isWord_33
    · refine lv_aload_n hx hb dX4_isWord_16 rfl (lv_at hl 0 rfl) ?_
      refine va_get (D := D) (ci := 4) (v := .int (gi (C 5) 5)) (C := RX4) (T := TX4) (N := 6) hx hb htg ig_4 hown hK hP 5 (oh_wg (by decide) (sX_5 hT)) rfl 5 (by decide) (htg _ q_224) (fun _ h9 => h9) rfl dX4_isWord_17 ?_
      refine lv_aload_n hx hb dX4_isWord_20 rfl (lv_at hl 0 rfl) ?_
      refine va_get (D := D) (ci := 4) (v := .int (gi (C 5) 4)) (C := RX4) (T := TX4) (N := 6) hx hb htg ig_4 hown hK hP 5 (oh_wg (by decide) (sX_5 hT)) rfl 4 (by decide) (htg _ q_223) (fun _ h9 => h9) rfl dX4_isWord_21 ?_
      refine lv_isub hx hb dX4_isWord_24 ?_
      refine lv_aload_n hx hb dX4_isWord_25 rfl (lv_at hl 1 rfl) ?_
      refine tq_V (As := []) (rest := [.int ((gi (C 5) 5) - (gi (C 5) 4))]) (ws := []) ⟨hx, hb, hml, hown, htg⟩ (c_J0_length_8abf5 l D E G j hj) (cwV 0 htg (oh_gV q_521 q_522 q_523 q_75 q_524) rfl rfl rfl pdVJ0_length_8abf5 ⟨Nat.le_of_ble_eq_true rfl, Nat.le_of_ble_eq_true rfl⟩) hK va_nil hG hS (oh_srec hG hS hj) rfl hl.1 rfl (Nat.le_of_ble_eq_true rfl) dX4_isWord_26 ⟨Nat.le_of_ble_eq_true rfl, Nat.le_of_ble_eq_true rfl⟩ (fun r_3 hq_4 => ?_)
      subst hq_4
      refine lv_icmp_eq (tgt := 34) hx hb dX4_isWord_29 (by decide) (fun (c_5 : ((gi (C 5) 5) - (gi (C 5) 4)) = (Int32.ofNat (oh_len j))) => ?_) (fun (c_5 : ¬ (((gi (C 5) 5) - (gi (C 5) 4)) = (Int32.ofNat (oh_len j)))) => ?_)
      · refine lv_iconst (v := 0) hx hb dX4_isWord_34 (by decide) ?_
        refine lv_istore_n (lv' := [(2, .int 0), (0, .ref (a 5)), (1, .ref (G (3 + j)))]) hx hb dX4_isWord_35 rfl hl (by decide) rfl (fun ls hl => ?_)
        have L_36 : ∀ (d : Nat) (z36_2 : Int32) (ls : Array Slot), (6 - z36_2.toInt).toNat = d → rg z36_2 0 6 → lv_has ls 3 [(2, .int z36_2), (0, .ref (a 5)), (1, .ref (G (3 + j)))] → W p l e ({ frames := 4, cells := 0, slots := 0, locals := 85 }) s m (([.ref (a 5), .ref (G (3 + j))] : List Value).toArray) below meth c s.heap [] 0 0 Q (F0 m 36 ls []) := by
          intro d
          induction d using Nat.strongRecOn with
          | ind d ih_36 =>
          intro z36_2 ls hd_36 hz36_2 hl
          refine lv_iload_n hx hb dX4_isWord_36 rfl (lv_at hl 0 rfl) ?_
          refine lv_aload_n hx hb dX4_isWord_37 rfl (lv_at hl 2 rfl) ?_
          refine tq_V (As := []) (rest := [.int z36_2]) (ws := []) ⟨hx, hb, hml, hown, htg⟩ (c_J0_length_8abf5 l D E G j hj) (cwV 0 htg (oh_gV q_521 q_522 q_523 q_75 q_524) rfl rfl rfl pdVJ0_length_8abf5 ⟨Nat.le_of_ble_eq_true rfl, Nat.le_of_ble_eq_true rfl⟩) hK va_nil hG hS (oh_srec hG hS hj) rfl hl.1 rfl (Nat.le_of_ble_eq_true rfl) dX4_isWord_38 ⟨Nat.le_of_ble_eq_true rfl, Nat.le_of_ble_eq_true rfl⟩ (fun r_6 hq_7 => ?_)
          subst hq_7
          refine lv_icmp_ge (tgt := 71) hx hb dX4_isWord_41 (by decide) (fun (c_8 : (Int32.ofNat (oh_len j)) ≤ z36_2) => ?_) (fun (c_8 : ¬ ((Int32.ofNat (oh_len j)) ≤ z36_2)) => ?_)
          · refine lv_iconst (v := 1) hx hb dX4_isWord_71 (by decide) ?_
            rw [hQ]
            exact W.zret (v := 1) (ty := .boolean) hx hb hr (by decide) (fun t ht hW => ⟨1, rfl, (Or.inr rfl), ht⟩) (fun q h => by cases h) dX4_isWord_72
          · refine lv_aload_n hx hb dX4_isWord_44 rfl (lv_at hl 1 rfl) ?_
            refine va_get (D := D) (ci := 4) (v := .ref (a 32)) (C := RX4) (T := TX4) (N := 6) hx hb htg ig_4 hown hK hP 5 (oh_wg (by decide) (sX_5 hT)) rfl 0 (by decide) (htg _ q_217) (fun _ h9 => h9) rfl dX4_isWord_45 ?_
            refine lv_aload_n hx hb dX4_isWord_48 rfl (lv_at hl 1 rfl) ?_
            refine va_get (D := D) (ci := 4) (v := .int (gi (C 5) 4)) (C := RX4) (T := TX4) (N := 6) hx hb htg ig_4 hown hK hP 5 (oh_wg (by decide) (sX_5 hT)) rfl 4 (by decide) (htg _ q_223) (fun _ h9 => h9) rfl dX4_isWord_49 ?_
            refine lv_iload_n hx hb dX4_isWord_52 rfl (lv_at hl 0 rfl) ?_
            refine lv_iadd hx hb dX4_isWord_53 ?_
            have n_9 : vp_in ((gi (C 5) 4) + z36_2) 250 := (oh_wix (fX_5_5 hT0) (fX_5_4 hT0) c_5 (rg_w (rn_ltu (u' := 5) (Int32.not_le.mp c_8) hz36_2 (oh_lenr hj) (by decide)) (by decide)) (Int32.not_le.mp c_8))
            refine th_iald hx hb hK hP 32 (by decide) (sX_32 hT) n_9 dX4_isWord_54 ?_
            refine lv_aload_n hx hb dX4_isWord_55 rfl (lv_at hl 2 rfl) ?_
            refine lv_iload_n hx hb dX4_isWord_56 rfl (lv_at hl 0 rfl) ?_
            refine tq_V (As := [.int z36_2]) (rest := [.int (ga (C 32) ((gi (C 5) 4) + z36_2).toNatClampNeg)]) (ws := []) ⟨hx, hb, hml, hown, htg⟩ (c_J0_charAt_5068e l D E G j z36_2 hj (oh_nn (rn_ltu (u' := 5) (Int32.not_le.mp c_8) hz36_2 (oh_lenr hj) (by decide)) (by decide)) (Int32.not_le.mp c_8)) (cwV 1 htg (oh_gV q_531 q_532 q_533 q_75 q_534) rfl rfl rfl pdVJ0_charAt_5068e ⟨Nat.le_of_ble_eq_true rfl, Nat.le_of_ble_eq_true rfl⟩) hK va_nil hG hS (oh_srec hG hS hj) rfl hl.1 rfl (Nat.le_of_ble_eq_true rfl) dX4_isWord_57 ⟨Nat.le_of_ble_eq_true rfl, Nat.le_of_ble_eq_true rfl⟩ (fun r_10 hq_11 => ?_)
            subst hq_11
            refine lv_icmp_eq (tgt := 65) hx hb dX4_isWord_60 (by decide) (fun (c_12 : (ga (C 32) ((gi (C 5) 4) + z36_2).toNatClampNeg) = (oh_byt j (z36_2).toNatClampNeg)) => ?_) (fun (c_12 : ¬ ((ga (C 32) ((gi (C 5) 4) + z36_2).toNatClampNeg) = (oh_byt j (z36_2).toNatClampNeg))) => ?_)
            · refine lv_iinc (v := z36_2 + 1) (lv' := [(2, .int (z36_2 + 1)), (0, .ref (a 5)), (1, .ref (G (3 + j)))]) hx hb dX4_isWord_65 hl (k := 0) rfl (by rfl) (by decide) rfl (fun ls hl => ?_)
              refine lv_goto (tgt := 36) hx hb dX4_isWord_68 (by decide) ?_
              exact ih_36 _ (hd_36 ▸ mu_up 6 (rn_ltu (u' := 5) (Int32.not_le.mp c_8) hz36_2 (oh_lenr hj) (by decide)) (by decide)) (z36_2 + 1) ls rfl (rg_w (rg_add (lo := 1) (hi := 6) (rn_ltu (u' := 5) (Int32.not_le.mp c_8) hz36_2 (oh_lenr hj) (by decide)) (rg_c (v := 1) (lo := 1) (hi := 1) (by decide)) (by decide)) (by decide)) (lv_sub hl [0, 1, 2] rfl)
            · refine lv_iconst (v := 0) hx hb dX4_isWord_63 (by decide) ?_
              rw [hQ]
              exact W.zret (v := 0) (ty := .boolean) hx hb hr (by decide) (fun t ht hW => ⟨0, rfl, (Or.inl rfl), ht⟩) (fun q h => by cases h) dX4_isWord_64
        exact L_36 _ 0 ls rfl (rg_w (rg_c (v := 0) (lo := 0) (hi := 0) (by decide)) (by decide)) (lv_sub hl [0, 1, 2] rfl)
      · refine lv_iconst (v := 0) hx hb dX4_isWord_32 (by decide) ?_
        rw [hQ]
        exact W.zret (v := 0) (ty := .boolean) hx hb hr (by decide) (fun t ht hW => ⟨0, rfl, (Or.inl rfl), ht⟩) (fun q h => by cases h) dX4_isWord_33

set_option maxHeartbeats 4000000 in
set_option maxRecDepth 100000 in
theorem c_X4_numberHere (l : Launch) (D : va_G) (E : Nat → ClassId) (G : Nat → Nat) (a : Nat → Nat) (C : Nat → va_E) (hT : TyX a E C) : Met l yX4_numberHere (oh_w yX4_numberHere cX4_numberHere 3 (some .int)) ({ frames := 0, cells := 0, slots := 0, locals := 0 }) (oh_Pp D E G [.ref (a 5)] (oh_W 35 a C)) (vp_Si (fun r => True)) 0 0 (fun _ => False) := by
  refine Met.ofW (cc := cX4_numberHere) (maxL := 3) (ret := (some .int)) (by decide) rfl ?_
  intro p e s m args below meth c s₁ B hml hv
  obtain ⟨rfl, hP, hK, hG⟩ := hv
  have hx := B.exec
  have hb := B.bytes
  have hr := B.returns
  have hts := atoms_spec (ws := (oh_w yX4_numberHere cX4_numberHere 3 (some .int))) B.pre
  have htg : ∀ w ∈ oh_t, w.before _ s = true := fun w h => hts w (List.mem_cons_of_mem _ h)
  have hown : s.vm.findClass RX4 = some m.cls := findClass_of_methodNamed B.named
  have hlocks := B.notSynchronized
  have hT0 := hT
  have hS : va_S (fun _ => False) s.heap s.heap [] := va_S.rf
  have hl := lv_entry ([.ref (a 5)]) (n := 3) (Nat.le_of_ble_eq_true rfl)
  rw [lg_entry_eq]
  generalize (lg_sl ([.ref (a 5)]) ++ List.replicate (3 - (lg_sl ([.ref (a 5)])).length) Slot.unset).toArray = ls at hl ⊢
  have hl : lv_has ls 3 [(0, .ref (a 5))] := hl
  refine oh_genQ (fun Q hQ => ?_)
  refine lv_aload_n hx hb dX4_numberHere_0 rfl (lv_at hl 0 rfl) ?_
  refine va_get (D := D) (ci := 4) (v := .int (gi (C 5) 3)) (C := RX4) (T := TX4) (N := 6) hx hb htg ig_4 hown hK hP 5 (oh_wg (by decide) (sX_5 hT)) rfl 3 (by decide) (htg _ q_222) (fun _ h9 => h9) rfl dX4_numberHere_1 ?_
  refine lv_iconst (v := 2) hx hb dX4_numberHere_4 (by decide) ?_
  refine lv_icmp_ne (tgt := 21) hx hb dX4_numberHere_5 (by decide) (fun (c_1 : ¬ ((gi (C 5) 3) = 2)) => ?_) (fun (c_1 : (gi (C 5) 3) = 2) => ?_)
  · refine lv_iconst (v := (-1)) hx hb dX4_numberHere_21 (by decide) ?_
    rw [hQ]
    exact W.iret (v := (-1)) hx hb hr (fun t ht hW => ⟨(-1), rfl, trivial, ht⟩) (fun q h => by cases h) dX4_numberHere_22
  · refine lv_aload_n hx hb dX4_numberHere_8 rfl (lv_at hl 0 rfl) ?_
    refine va_get (D := D) (ci := 4) (v := .int (gi (C 5) 5)) (C := RX4) (T := TX4) (N := 6) hx hb htg ig_4 hown hK hP 5 (oh_wg (by decide) (sX_5 hT)) rfl 5 (by decide) (htg _ q_224) (fun _ h9 => h9) rfl dX4_numberHere_9 ?_
    refine lv_aload_n hx hb dX4_numberHere_12 rfl (lv_at hl 0 rfl) ?_
    refine va_get (D := D) (ci := 4) (v := .int (gi (C 5) 4)) (C := RX4) (T := TX4) (N := 6) hx hb htg ig_4 hown hK hP 5 (oh_wg (by decide) (sX_5 hT)) rfl 4 (by decide) (htg _ q_223) (fun _ h9 => h9) rfl dX4_numberHere_13 ?_
    refine lv_isub hx hb dX4_numberHere_16 ?_
    refine lv_iconst (v := 3) hx hb dX4_numberHere_17 (by decide) ?_
    refine lv_icmp_le (tgt := 23) hx hb dX4_numberHere_18 (by decide) (fun (c_2 : ((gi (C 5) 5) - (gi (C 5) 4)) ≤ 3) => ?_) (fun (c_2 : ¬ (((gi (C 5) 5) - (gi (C 5) 4)) ≤ 3)) => ?_)
    · refine lv_iconst (v := 0) hx hb dX4_numberHere_23 (by decide) ?_
      refine lv_istore_n (lv' := [(1, .int 0), (0, .ref (a 5))]) hx hb dX4_numberHere_24 rfl hl (by decide) rfl (fun ls hl => ?_)
      refine lv_aload_n hx hb dX4_numberHere_25 rfl (lv_at hl 1 rfl) ?_
      refine va_get (D := D) (ci := 4) (v := .int (gi (C 5) 4)) (C := RX4) (T := TX4) (N := 6) hx hb htg ig_4 hown hK hP 5 (oh_wg (by decide) (sX_5 hT)) rfl 4 (by decide) (htg _ q_223) (fun _ h9 => h9) rfl dX4_numberHere_26 ?_
      refine lv_istore_n (lv' := [(2, .int (gi (C 5) 4)), (1, .int 0), (0, .ref (a 5))]) hx hb dX4_numberHere_29 rfl hl (by decide) rfl (fun ls hl => ?_)
      have L_30 : ∀ (d : Nat) (z30_2 : Int32) (z30_1 : Int32) (ls : Array Slot), (250 - z30_2.toInt).toNat = d → rg z30_2 0 250 → lv_has ls 3 [(2, .int z30_2), (1, .int z30_1), (0, .ref (a 5))] → W p l e ({ frames := 0, cells := 0, slots := 0, locals := 0 }) s m (([.ref (a 5)] : List Value).toArray) below meth c s.heap [] 0 0 Q (F0 m 30 ls []) := by
        intro d
        induction d using Nat.strongRecOn with
        | ind d ih_30 =>
        intro z30_2 z30_1 ls hd_30 hz30_2 hl
        refine lv_iload_n hx hb dX4_numberHere_30 rfl (lv_at hl 0 rfl) ?_
        refine lv_aload_n hx hb dX4_numberHere_31 rfl (lv_at hl 2 rfl) ?_
        refine va_get (D := D) (ci := 4) (v := .int (gi (C 5) 5)) (C := RX4) (T := TX4) (N := 6) hx hb htg ig_4 hown hK hP 5 (oh_wg (by decide) (sX_5 hT)) rfl 5 (by decide) (htg _ q_224) (fun _ h9 => h9) rfl dX4_numberHere_32 ?_
        refine lv_icmp_ge (tgt := 59) hx hb dX4_numberHere_35 (by decide) (fun (c_3 : (gi (C 5) 5) ≤ z30_2) => ?_) (fun (c_3 : ¬ ((gi (C 5) 5) ≤ z30_2)) => ?_)
        · refine lv_iload_n hx hb dX4_numberHere_59 rfl (lv_at hl 1 rfl) ?_
          rw [hQ]
          exact W.iret (v := z30_1) hx hb hr (fun t ht hW => ⟨z30_1, rfl, trivial, ht⟩) (fun q h => by cases h) dX4_numberHere_60
        · refine lv_iload_n hx hb dX4_numberHere_38 rfl (lv_at hl 1 rfl) ?_
          refine lv_bipush (v := 10) hx hb dX4_numberHere_39 (by decide) ?_
          refine lv_imul hx hb dX4_numberHere_41 ?_
          refine lv_aload_n hx hb dX4_numberHere_42 rfl (lv_at hl 2 rfl) ?_
          refine va_get (D := D) (ci := 4) (v := .ref (a 32)) (C := RX4) (T := TX4) (N := 6) hx hb htg ig_4 hown hK hP 5 (oh_wg (by decide) (sX_5 hT)) rfl 0 (by decide) (htg _ q_217) (fun _ h9 => h9) rfl dX4_numberHere_43 ?_
          refine lv_iload_n hx hb dX4_numberHere_46 rfl (lv_at hl 0 rfl) ?_
          have n_4 : vp_in z30_2 250 := (rg_in (rn_ltu (u' := 249) (Int32.not_le.mp c_3) hz30_2 (fX_5_5 hT0) (by decide)) (by decide))
          refine th_iald hx hb hK hP 32 (by decide) (sX_32 hT) n_4 dX4_numberHere_47 ?_
          refine lv_iadd hx hb dX4_numberHere_48 ?_
          refine lv_bipush (v := 48) hx hb dX4_numberHere_49 (by decide) ?_
          refine lv_isub hx hb dX4_numberHere_51 ?_
          refine lv_istore_n (lv' := [(1, .int (((z30_1 * 10) + (ga (C 32) (z30_2).toNatClampNeg)) - 48)), (2, .int z30_2), (0, .ref (a 5))]) hx hb dX4_numberHere_52 rfl hl (by decide) rfl (fun ls hl => ?_)
          refine lv_iinc (v := z30_2 + 1) (lv' := [(2, .int (z30_2 + 1)), (1, .int (((z30_1 * 10) + (ga (C 32) (z30_2).toNatClampNeg)) - 48)), (0, .ref (a 5))]) hx hb dX4_numberHere_53 hl (k := 1) rfl (by rfl) (by decide) rfl (fun ls hl => ?_)
          refine lv_goto (tgt := 30) hx hb dX4_numberHere_56 (by decide) ?_
          exact ih_30 _ (hd_30 ▸ mu_up 250 (rn_ltu (u' := 249) (Int32.not_le.mp c_3) hz30_2 (fX_5_5 hT0) (by decide)) (by decide)) (z30_2 + 1) (((z30_1 * 10) + (ga (C 32) (z30_2).toNatClampNeg)) - 48) ls rfl (rg_w (rg_add (lo := 1) (hi := 250) (rn_ltu (u' := 249) (Int32.not_le.mp c_3) hz30_2 (fX_5_5 hT0) (by decide)) (rg_c (v := 1) (lo := 1) (hi := 1) (by decide)) (by decide)) (by decide)) (lv_sub hl [0, 1, 2] rfl)
      exact L_30 _ (gi (C 5) 4) 0 ls rfl (rg_w (fX_5_4 hT0) (by decide)) (lv_sub hl [0, 1, 2] rfl)
    · refine lv_iconst (v := (-1)) hx hb dX4_numberHere_21 (by decide) ?_
      rw [hQ]
      exact W.iret (v := (-1)) hx hb hr (fun t ht hW => ⟨(-1), rfl, trivial, ht⟩) (fun q h => by cases h) dX4_numberHere_22

set_option maxHeartbeats 4000000 in
set_option maxRecDepth 100000 in
theorem c_X4_takeSign (l : Launch) (D : va_G) (E : Nat → ClassId) (G : Nat → Nat) (sz : Nat) (a : Nat → Nat) (C : Nat → va_E) (hT : TyX a E C) : Met l yX4_takeSign (oh_w yX4_takeSign cX4_takeSign 1 none) ({ frames := 1, cells := 0, slots := 0, locals := 20 }) (oh_Pm D E G [.ref (a 5)] (oh_W 35 a C) sz) (va_Qv (fun (u : Nat → va_E) => TyX a E u ∧ fr [(5, 6)] [] C u ∧ (gi (u 5) 2 = -1 → gi (C 5) 2 = -1)) (oh_B D (va_A (oh_W 35 a C) sz) (fun u => oh_W 35 a u)) (va_A (oh_W 35 a C) sz)) 0 0 (va_A (oh_W 35 a C) sz) := by
  refine Met.ofW (cc := cX4_takeSign) (maxL := 1) (ret := none) (by decide) rfl ?_
  intro p e s m args below meth c s₁ B hml hv
  obtain ⟨rfl, hsz, hP, hK, hD0, hG⟩ := hv
  have hx := B.exec
  have hb := B.bytes
  have hr := B.returns
  have hts := atoms_spec (ws := (oh_w yX4_takeSign cX4_takeSign 1 none)) B.pre
  have htg : ∀ w ∈ oh_t, w.before _ s = true := fun w h => hts w (List.mem_cons_of_mem _ h)
  have hown : s.vm.findClass RX4 = some m.cls := findClass_of_methodNamed B.named
  have hlocks := B.notSynchronized
  have hT0 := hT
  subst hsz
  have hD := hD0.self (sz := s.heap.size)
  generalize hAe : va_A (oh_W 35 a C) s.heap.size = A at hD hG ⊢
  have hA : ∀ q : Nat, s.heap.size ≤ q → A q := fun q h => by rw [← hAe]; exact Or.inr h
  have hS : va_S A s.heap s.heap [] := va_S.rf
  have hF : fr [(5, 6)] [] C C := fr_rf
  have hl := lv_entry ([.ref (a 5)]) (n := 1) (Nat.le_of_ble_eq_true rfl)
  rw [lg_entry_eq]
  generalize (lg_sl ([.ref (a 5)]) ++ List.replicate (1 - (lg_sl ([.ref (a 5)])).length) Slot.unset).toArray = ls at hl ⊢
  have hl : lv_has ls 1 [(0, .ref (a 5))] := hl
  refine oh_genQ (fun Q hQ => ?_)
  refine lv_aload_n hx hb dX4_takeSign_0 rfl (lv_at hl 0 rfl) ?_
  refine va_get (D := D) (ci := 4) (v := .int (gi (C 5) 3)) (C := RX4) (T := TX4) (N := 6) hx hb htg ig_4 hown hK hP 5 (oh_wg (by decide) (sX_5 hT)) rfl 3 (by decide) (htg _ q_222) (fun _ h9 => h9) rfl dX4_takeSign_1 ?_
  refine lv_iconst (v := 3) hx hb dX4_takeSign_4 (by decide) ?_
  refine lv_icmp_ne (tgt := 15) hx hb dX4_takeSign_5 (by decide) (fun (c_1 : ¬ ((gi (C 5) 3) = 3)) => ?_) (fun (c_1 : (gi (C 5) 3) = 3) => ?_)
  · refine lv_aload_n hx hb dX4_takeSign_15 rfl (lv_at hl 0 rfl) ?_
    refine tm_Vv (As := []) (rest := []) ⟨hx, hb, hml, hown, htg⟩ (c_X4_fail l D E G _ a C hT) (cwV 0 htg (oh_gV q_596 q_580 q_581 q_71 q_582) rfl rfl rfl pdVX4_fail ⟨Nat.le_of_ble_eq_true rfl, Nat.le_of_ble_eq_true rfl⟩) hK hP hD hG hS hA (va_recv hK hP (ci := 4) (q0 := 5) rfl (oh_wg (by decide) (sX_5 hT))) rfl hl.1 rfl (Nat.le_of_ble_eq_true rfl) dX4_takeSign_16 ⟨Nat.le_of_ble_eq_true rfl, Nat.le_of_ble_eq_true rfl⟩ (fun C_3 H locs hq_4 hP hD hS => ?_)
    obtain ⟨hT, f_5, hq_4⟩ := hq_4
    have hF := fr_tr hF f_5 (by decide) (by decide)
    refine W.widen (k := 0) (n := 0) (Nat.le_refl _) (Nat.le_refl _) ?_
    have t_6 := hT
    rw [hQ]
    exact W.vret hx hb hr (fun t ht hW => ⟨⟨C_3, rfl, ⟨hT, hF, (fun h8 => ((fun h7 => absurd h7 (oh_nfl hq_4)) h8))⟩, ⟨by rw [ht]; exact hP, hD⟩⟩, hS.F ht⟩) hS.2.2 dX4_takeSign_19
  · refine lv_aload_n hx hb dX4_takeSign_8 rfl (lv_at hl 0 rfl) ?_
    refine tm_Vv (As := []) (rest := []) ⟨hx, hb, hml, hown, htg⟩ (c_X4_advance l D E G _ a C hT) (cwV 0 htg (oh_gV q_508 q_509 q_510 q_71 q_511) rfl rfl rfl pdVX4_advance ⟨Nat.le_of_ble_eq_true rfl, Nat.le_of_ble_eq_true rfl⟩) hK hP hD hG hS hA (va_recv hK hP (ci := 4) (q0 := 5) rfl (oh_wg (by decide) (sX_5 hT))) rfl hl.1 rfl (Nat.le_of_ble_eq_true rfl) dX4_takeSign_9 ⟨Nat.le_of_ble_eq_true rfl, Nat.le_of_ble_eq_true rfl⟩ (fun C_8 H locs hq_9 hP hD hS => ?_)
    obtain ⟨hT, f_10, hq_9⟩ := hq_9
    have hF := fr_tr hF f_10 (by decide) (by decide)
    refine W.widen (k := 0) (n := 0) (Nat.le_refl _) (Nat.le_refl _) ?_
    have t_11 := hT
    refine lv_goto (tgt := 19) hx hb dX4_takeSign_12 (by decide) ?_
    rw [hQ]
    exact W.vret hx hb hr (fun t ht hW => ⟨⟨C_8, rfl, ⟨hT, hF, (fun h8 => ((fun h7 => Eq.trans (hq_9).symm h7) h8))⟩, ⟨by rw [ht]; exact hP, hD⟩⟩, hS.F ht⟩) hS.2.2 dX4_takeSign_19

set_option maxHeartbeats 4000000 in
set_option maxRecDepth 100000 in
theorem c_X4_takeWord (l : Launch) (D : va_G) (E : Nat → ClassId) (G : Nat → Nat) (sz : Nat) (a : Nat → Nat) (C : Nat → va_E) (hT : TyX a E C) (j : Nat) (hj : j < 34) : Met l yX4_takeWord (oh_w yX4_takeWord cX4_takeWord 2 none) ({ frames := 5, cells := 0, slots := 0, locals := 107 }) (oh_Pm D E G [.ref (a 5), .ref (G (3 + j))] (oh_W 35 a C) sz) (va_Qv (fun (u : Nat → va_E) => TyX a E u ∧ fr [(5, 6)] [] C u ∧ (gi (u 5) 2 = -1 → gi (C 5) 2 = -1)) (oh_B D (va_A (oh_W 35 a C) sz) (fun u => oh_W 35 a u)) (va_A (oh_W 35 a C) sz)) 0 0 (va_A (oh_W 35 a C) sz) := by
  refine Met.ofW (cc := cX4_takeWord) (maxL := 2) (ret := none) (by decide) rfl ?_
  intro p e s m args below meth c s₁ B hml hv
  obtain ⟨rfl, hsz, hP, hK, hD0, hG⟩ := hv
  have hx := B.exec
  have hb := B.bytes
  have hr := B.returns
  have hts := atoms_spec (ws := (oh_w yX4_takeWord cX4_takeWord 2 none)) B.pre
  have htg : ∀ w ∈ oh_t, w.before _ s = true := fun w h => hts w (List.mem_cons_of_mem _ h)
  have hown : s.vm.findClass RX4 = some m.cls := findClass_of_methodNamed B.named
  have hlocks := B.notSynchronized
  have hT0 := hT
  subst hsz
  have hD := hD0.self (sz := s.heap.size)
  generalize hAe : va_A (oh_W 35 a C) s.heap.size = A at hD hG ⊢
  have hA : ∀ q : Nat, s.heap.size ≤ q → A q := fun q h => by rw [← hAe]; exact Or.inr h
  have hS : va_S A s.heap s.heap [] := va_S.rf
  have hF : fr [(5, 6)] [] C C := fr_rf
  have hl := lv_entry ([.ref (a 5), .ref (G (3 + j))]) (n := 2) (Nat.le_of_ble_eq_true rfl)
  rw [lg_entry_eq]
  generalize (lg_sl ([.ref (a 5), .ref (G (3 + j))]) ++ List.replicate (2 - (lg_sl ([.ref (a 5), .ref (G (3 + j))])).length) Slot.unset).toArray = ls at hl ⊢
  have hl : lv_has ls 2 [(0, .ref (a 5)), (1, .ref (G (3 + j)))] := hl
  refine oh_genQ (fun Q hQ => ?_)
  refine lv_aload_n hx hb dX4_takeWord_0 rfl (lv_at hl 0 rfl) ?_
  refine lv_aload_n hx hb dX4_takeWord_1 rfl (lv_at hl 1 rfl) ?_
  refine tq_V (As := [.ref (G (3 + j))]) (rest := []) (ws := (oh_W 35 a C)) ⟨hx, hb, hml, hown, htg⟩ (c_X4_isWord l D E G a C hT j hj) (cwV 1 htg (oh_gV q_607 q_518 q_519 q_71 q_520) rfl rfl rfl pdVX4_isWord ⟨Nat.le_of_ble_eq_true rfl, Nat.le_of_ble_eq_true rfl⟩) hK hP hG hS (va_recv hK hP (ci := 4) (q0 := 5) rfl (oh_wg (by decide) (sX_5 hT))) rfl hl.1 rfl (Nat.le_of_ble_eq_true rfl) dX4_takeWord_2 ⟨Nat.le_of_ble_eq_true rfl, Nat.le_of_ble_eq_true rfl⟩ (fun r_1 hq_2 => ?_)
  refine lv_if_eq (tgt := 15) hx hb dX4_takeWord_5 (by decide) (fun (c_3 : r_1 = 0) => ?_) (fun (c_3 : ¬ (r_1 = 0)) => ?_)
  · refine lv_aload_n hx hb dX4_takeWord_15 rfl (lv_at hl 0 rfl) ?_
    refine tm_Vv (As := []) (rest := []) ⟨hx, hb, hml, hown, htg⟩ (c_X4_fail l D E G _ a C hT) (cwV 0 htg (oh_gV q_596 q_580 q_581 q_71 q_582) rfl rfl rfl pdVX4_fail ⟨Nat.le_of_ble_eq_true rfl, Nat.le_of_ble_eq_true rfl⟩) hK hP hD hG hS hA (va_recv hK hP (ci := 4) (q0 := 5) rfl (oh_wg (by decide) (sX_5 hT))) rfl hl.1 rfl (Nat.le_of_ble_eq_true rfl) dX4_takeWord_16 ⟨Nat.le_of_ble_eq_true rfl, Nat.le_of_ble_eq_true rfl⟩ (fun C_5 H locs hq_6 hP hD hS => ?_)
    obtain ⟨hT, f_7, hq_6⟩ := hq_6
    have hF := fr_tr hF f_7 (by decide) (by decide)
    refine W.widen (k := 0) (n := 0) (Nat.le_refl _) (Nat.le_refl _) ?_
    have t_8 := hT
    rw [hQ]
    exact W.vret hx hb hr (fun t ht hW => ⟨⟨C_5, rfl, ⟨hT, hF, (fun h8 => ((fun h7 => absurd h7 (oh_nfl hq_6)) h8))⟩, ⟨by rw [ht]; exact hP, hD⟩⟩, hS.F ht⟩) hS.2.2 dX4_takeWord_19
  · refine lv_aload_n hx hb dX4_takeWord_8 rfl (lv_at hl 0 rfl) ?_
    refine tm_Vv (As := []) (rest := []) ⟨hx, hb, hml, hown, htg⟩ (c_X4_advance l D E G _ a C hT) (cwV 0 htg (oh_gV q_508 q_509 q_510 q_71 q_511) rfl rfl rfl pdVX4_advance ⟨Nat.le_of_ble_eq_true rfl, Nat.le_of_ble_eq_true rfl⟩) hK hP hD hG hS hA (va_recv hK hP (ci := 4) (q0 := 5) rfl (oh_wg (by decide) (sX_5 hT))) rfl hl.1 rfl (Nat.le_of_ble_eq_true rfl) dX4_takeWord_9 ⟨Nat.le_of_ble_eq_true rfl, Nat.le_of_ble_eq_true rfl⟩ (fun C_10 H locs hq_11 hP hD hS => ?_)
    obtain ⟨hT, f_12, hq_11⟩ := hq_11
    have hF := fr_tr hF f_12 (by decide) (by decide)
    refine W.widen (k := 0) (n := 0) (Nat.le_refl _) (Nat.le_refl _) ?_
    have t_13 := hT
    refine lv_goto (tgt := 19) hx hb dX4_takeWord_12 (by decide) ?_
    rw [hQ]
    exact W.vret hx hb hr (fun t ht hW => ⟨⟨C_10, rfl, ⟨hT, hF, (fun h8 => ((fun h7 => Eq.trans (hq_11).symm h7) h8))⟩, ⟨by rw [ht]; exact hP, hD⟩⟩, hS.F ht⟩) hS.2.2 dX4_takeWord_19

set_option maxHeartbeats 4000000 in
set_option maxRecDepth 100000 in
theorem c_X4_takeWordIfThere (l : Launch) (D : va_G) (E : Nat → ClassId) (G : Nat → Nat) (sz : Nat) (a : Nat → Nat) (C : Nat → va_E) (hT : TyX a E C) (j : Nat) (hj : j < 34) : Met l yX4_takeWordIfThere (oh_w yX4_takeWordIfThere cX4_takeWordIfThere 3 (some .boolean)) ({ frames := 5, cells := 0, slots := 0, locals := 107 }) (oh_Pm D E G [.ref (a 5), .ref (G (3 + j))] (oh_W 35 a C) sz) (va_Qi (fun r (u : Nat → va_E) => TyX a E u ∧ fr [(5, 6)] [] C u ∧ (r = 0 ∨ r = 1) ∧ (gi (u 5) 2 = -1 → gi (C 5) 2 = -1)) (oh_B D (va_A (oh_W 35 a C) sz) (fun u => oh_W 35 a u)) (va_A (oh_W 35 a C) sz)) 0 0 (va_A (oh_W 35 a C) sz) := by
  refine Met.ofW (cc := cX4_takeWordIfThere) (maxL := 3) (ret := (some .boolean)) (by decide) rfl ?_
  intro p e s m args below meth c s₁ B hml hv
  obtain ⟨rfl, hsz, hP, hK, hD0, hG⟩ := hv
  have hx := B.exec
  have hb := B.bytes
  have hr := B.returns
  have hts := atoms_spec (ws := (oh_w yX4_takeWordIfThere cX4_takeWordIfThere 3 (some .boolean))) B.pre
  have htg : ∀ w ∈ oh_t, w.before _ s = true := fun w h => hts w (List.mem_cons_of_mem _ h)
  have hown : s.vm.findClass RX4 = some m.cls := findClass_of_methodNamed B.named
  have hlocks := B.notSynchronized
  have hT0 := hT
  subst hsz
  have hD := hD0.self (sz := s.heap.size)
  generalize hAe : va_A (oh_W 35 a C) s.heap.size = A at hD hG ⊢
  have hA : ∀ q : Nat, s.heap.size ≤ q → A q := fun q h => by rw [← hAe]; exact Or.inr h
  have hS : va_S A s.heap s.heap [] := va_S.rf
  have hF : fr [(5, 6)] [] C C := fr_rf
  have hl := lv_entry ([.ref (a 5), .ref (G (3 + j))]) (n := 3) (Nat.le_of_ble_eq_true rfl)
  rw [lg_entry_eq]
  generalize (lg_sl ([.ref (a 5), .ref (G (3 + j))]) ++ List.replicate (3 - (lg_sl ([.ref (a 5), .ref (G (3 + j))])).length) Slot.unset).toArray = ls at hl ⊢
  have hl : lv_has ls 3 [(0, .ref (a 5)), (1, .ref (G (3 + j)))] := hl
  refine oh_genQ (fun Q hQ => ?_)
  refine lv_aload_n hx hb dX4_takeWordIfThere_0 rfl (lv_at hl 0 rfl) ?_
  refine lv_aload_n hx hb dX4_takeWordIfThere_1 rfl (lv_at hl 1 rfl) ?_
  refine tq_V (As := [.ref (G (3 + j))]) (rest := []) (ws := (oh_W 35 a C)) ⟨hx, hb, hml, hown, htg⟩ (c_X4_isWord l D E G a C hT j hj) (cwV 1 htg (oh_gV q_607 q_518 q_519 q_71 q_520) rfl rfl rfl pdVX4_isWord ⟨Nat.le_of_ble_eq_true rfl, Nat.le_of_ble_eq_true rfl⟩) hK hP hG hS (va_recv hK hP (ci := 4) (q0 := 5) rfl (oh_wg (by decide) (sX_5 hT))) rfl hl.1 rfl (Nat.le_of_ble_eq_true rfl) dX4_takeWordIfThere_2 ⟨Nat.le_of_ble_eq_true rfl, Nat.le_of_ble_eq_true rfl⟩ (fun r_1 hq_2 => ?_)
  refine lv_istore_n (lv' := [(2, .int r_1), (0, .ref (a 5)), (1, .ref (G (3 + j)))]) hx hb dX4_takeWordIfThere_5 rfl hl (by decide) rfl (fun ls hl => ?_)
  refine lv_iload_n hx hb dX4_takeWordIfThere_6 rfl (lv_at hl 0 rfl) ?_
  refine lv_if_eq (tgt := 14) hx hb dX4_takeWordIfThere_7 (by decide) (fun (c_3 : r_1 = 0) => ?_) (fun (c_3 : ¬ (r_1 = 0)) => ?_)
  · refine lv_iload_n hx hb dX4_takeWordIfThere_14 rfl (lv_at hl 0 rfl) ?_
    rw [hQ]
    exact W.zret (v := r_1) (ty := .boolean) hx hb hr (oh_nb hq_2) (fun t ht hW => ⟨⟨r_1, C, rfl, ⟨hT, hF, ⟨hq_2, (fun h8 => h8)⟩⟩, ⟨by rw [ht]; exact hP, hD⟩⟩, hS.F ht⟩) hS.2.2 dX4_takeWordIfThere_15
  · refine lv_aload_n hx hb dX4_takeWordIfThere_10 rfl (lv_at hl 1 rfl) ?_
    refine tm_Vv (As := []) (rest := []) ⟨hx, hb, hml, hown, htg⟩ (c_X4_advance l D E G _ a C hT) (cwV 0 htg (oh_gV q_508 q_509 q_510 q_71 q_511) rfl rfl rfl pdVX4_advance ⟨Nat.le_of_ble_eq_true rfl, Nat.le_of_ble_eq_true rfl⟩) hK hP hD hG hS hA (va_recv hK hP (ci := 4) (q0 := 5) rfl (oh_wg (by decide) (sX_5 hT))) rfl hl.1 rfl (Nat.le_of_ble_eq_true rfl) dX4_takeWordIfThere_11 ⟨Nat.le_of_ble_eq_true rfl, Nat.le_of_ble_eq_true rfl⟩ (fun C_5 H locs hq_6 hP hD hS => ?_)
    obtain ⟨hT, f_7, hq_6⟩ := hq_6
    have hF := fr_tr hF f_7 (by decide) (by decide)
    refine W.widen (k := 0) (n := 0) (Nat.le_refl _) (Nat.le_refl _) ?_
    have t_8 := hT
    refine lv_iload_n hx hb dX4_takeWordIfThere_14 rfl (lv_at hl 0 rfl) ?_
    rw [hQ]
    exact W.zret (v := r_1) (ty := .boolean) hx hb hr (oh_nb hq_2) (fun t ht hW => ⟨⟨r_1, C_5, rfl, ⟨hT, hF, ⟨hq_2, (fun h8 => ((fun h7 => Eq.trans (hq_6).symm h7) h8))⟩⟩, ⟨by rw [ht]; exact hP, hD⟩⟩, hS.F ht⟩) hS.2.2 dX4_takeWordIfThere_15

set_option maxHeartbeats 4000000 in
set_option maxRecDepth 100000 in
theorem c_X4_takeNumber (l : Launch) (D : va_G) (E : Nat → ClassId) (G : Nat → Nat) (sz : Nat) (a : Nat → Nat) (C : Nat → va_E) (hT : TyX a E C) (x1 : Int32) (x2 : Int32) : Met l yX4_takeNumber (oh_w yX4_takeNumber cX4_takeNumber 4 (some .int)) ({ frames := 1, cells := 0, slots := 0, locals := 22 }) (oh_Pm D E G [.ref (a 5), .int x1, .int x2] (oh_W 35 a C) sz) (va_Qi (fun r (u : Nat → va_E) => TyX a E u ∧ fr [(5, 6)] [] C u ∧ (gi (u 5) 2 = -1 → gi (C 5) 2 = -1) ∧ (gi (u 5) 2 = -1 → x1 ≤ r ∧ r ≤ x2)) (oh_B D (va_A (oh_W 35 a C) sz) (fun u => oh_W 35 a u)) (va_A (oh_W 35 a C) sz)) 0 0 (va_A (oh_W 35 a C) sz) := by
  refine Met.ofW (cc := cX4_takeNumber) (maxL := 4) (ret := (some .int)) (by decide) rfl ?_
  intro p e s m args below meth c s₁ B hml hv
  obtain ⟨rfl, hsz, hP, hK, hD0, hG⟩ := hv
  have hx := B.exec
  have hb := B.bytes
  have hr := B.returns
  have hts := atoms_spec (ws := (oh_w yX4_takeNumber cX4_takeNumber 4 (some .int))) B.pre
  have htg : ∀ w ∈ oh_t, w.before _ s = true := fun w h => hts w (List.mem_cons_of_mem _ h)
  have hown : s.vm.findClass RX4 = some m.cls := findClass_of_methodNamed B.named
  have hlocks := B.notSynchronized
  have hT0 := hT
  subst hsz
  have hD := hD0.self (sz := s.heap.size)
  generalize hAe : va_A (oh_W 35 a C) s.heap.size = A at hD hG ⊢
  have hA : ∀ q : Nat, s.heap.size ≤ q → A q := fun q h => by rw [← hAe]; exact Or.inr h
  have hS : va_S A s.heap s.heap [] := va_S.rf
  have hF : fr [(5, 6)] [] C C := fr_rf
  have hl := lv_entry ([.ref (a 5), .int x1, .int x2]) (n := 4) (Nat.le_of_ble_eq_true rfl)
  rw [lg_entry_eq]
  generalize (lg_sl ([.ref (a 5), .int x1, .int x2]) ++ List.replicate (4 - (lg_sl ([.ref (a 5), .int x1, .int x2])).length) Slot.unset).toArray = ls at hl ⊢
  have hl : lv_has ls 4 [(0, .ref (a 5)), (1, .int x1), (2, .int x2)] := hl
  refine oh_genQ (fun Q hQ => ?_)
  refine lv_aload_n hx hb dX4_takeNumber_0 rfl (lv_at hl 0 rfl) ?_
  refine tq_V (As := []) (rest := []) (ws := (oh_W 35 a C)) ⟨hx, hb, hml, hown, htg⟩ (c_X4_numberHere l D E G a C hT) (cwV 0 htg (oh_gV q_587 q_588 q_589 q_71 q_590) rfl rfl rfl pdVX4_numberHere ⟨Nat.le_of_ble_eq_true rfl, Nat.le_of_ble_eq_true rfl⟩) hK hP hG hS (va_recv hK hP (ci := 4) (q0 := 5) rfl (oh_wg (by decide) (sX_5 hT))) rfl hl.1 rfl (Nat.le_of_ble_eq_true rfl) dX4_takeNumber_1 ⟨Nat.le_of_ble_eq_true rfl, Nat.le_of_ble_eq_true rfl⟩ (fun r_1 hq_2 => ?_)
  refine lv_istore_n (lv' := [(3, .int r_1), (0, .ref (a 5)), (1, .int x1), (2, .int x2)]) hx hb dX4_takeNumber_4 rfl hl (by decide) rfl (fun ls hl => ?_)
  refine lv_aload_n hx hb dX4_takeNumber_5 rfl (lv_at hl 1 rfl) ?_
  refine tq_V (As := []) (rest := []) (ws := (oh_W 35 a C)) ⟨hx, hb, hml, hown, htg⟩ (c_X4_isSound l D E G a C hT) (cwV 0 htg (oh_gV q_591 q_592 q_593 q_71 q_594) rfl rfl rfl pdVX4_isSound ⟨Nat.le_of_ble_eq_true rfl, Nat.le_of_ble_eq_true rfl⟩) hK hP hG hS (va_recv hK hP (ci := 4) (q0 := 5) rfl (oh_wg (by decide) (sX_5 hT))) rfl hl.1 rfl (Nat.le_of_ble_eq_true rfl) dX4_takeNumber_6 ⟨Nat.le_of_ble_eq_true rfl, Nat.le_of_ble_eq_true rfl⟩ (fun r_3 hq_4 => ?_)
  refine lv_if_eq (tgt := 21) hx hb dX4_takeNumber_9 (by decide) (fun (c_5 : r_3 = 0) => ?_) (fun (c_5 : ¬ (r_3 = 0)) => ?_)
  · refine lv_aload_n hx hb dX4_takeNumber_21 rfl (lv_at hl 1 rfl) ?_
    refine tm_Vv (As := []) (rest := []) ⟨hx, hb, hml, hown, htg⟩ (c_X4_fail l D E G _ a C hT) (cwV 0 htg (oh_gV q_596 q_580 q_581 q_71 q_582) rfl rfl rfl pdVX4_fail ⟨Nat.le_of_ble_eq_true rfl, Nat.le_of_ble_eq_true rfl⟩) hK hP hD hG hS hA (va_recv hK hP (ci := 4) (q0 := 5) rfl (oh_wg (by decide) (sX_5 hT))) rfl hl.1 rfl (Nat.le_of_ble_eq_true rfl) dX4_takeNumber_22 ⟨Nat.le_of_ble_eq_true rfl, Nat.le_of_ble_eq_true rfl⟩ (fun C_7 H locs hq_8 hP hD hS => ?_)
    obtain ⟨hT, f_9, hq_8⟩ := hq_8
    have hF := fr_tr hF f_9 (by decide) (by decide)
    refine W.widen (k := 0) (n := 0) (Nat.le_refl _) (Nat.le_refl _) ?_
    have t_10 := hT
    refine lv_iconst (v := (-1)) hx hb dX4_takeNumber_25 (by decide) ?_
    rw [hQ]
    exact W.iret (v := (-1)) hx hb hr (fun t ht hW => ⟨⟨(-1), C_7, rfl, ⟨hT, hF, ⟨(fun h8 => ((fun h7 => absurd h7 (oh_nfl hq_8)) h8)), (fun h8 => absurd h8 (oh_nfl hq_8))⟩⟩, ⟨by rw [ht]; exact hP, hD⟩⟩, hS.F ht⟩) hS.2.2 dX4_takeNumber_26
  · have u_11 := hq_4.2 c_5
    have s_12 := u_11
    refine lv_iload_n hx hb dX4_takeNumber_12 rfl (lv_at hl 0 rfl) ?_
    refine lv_iload_n hx hb dX4_takeNumber_13 rfl (lv_at hl 2 rfl) ?_
    refine lv_iload_n hx hb dX4_takeNumber_14 rfl (lv_at hl 3 rfl) ?_
    refine tq_SN (As := [.int r_1, .int x1, .int x2]) (rest := []) (ws := []) ⟨hx, hb, hml, hown, htg⟩ (c_X6_within l D E G r_1 x1 x2) ⟨va_cnB (y := yX6_within) 3 htg (oh_gW q_295) rfl rfl rfl (hG.1 ("OneHeavyLoad$Tape", 58, ⟨"OneHeavyLoad", "within", "(III)Z"⟩, "OneHeavyLoad") (List.mem_of_getElem? (i := 2) rfl)) (htg _ q_66) pdX6_within ⟨Nat.le_of_ble_eq_true rfl, Nat.le_of_ble_eq_true rfl⟩, htg _ q_294, trivial⟩ hK va_nil hG hS rfl hl.1 rfl (Nat.le_of_ble_eq_true rfl) dX4_takeNumber_15 ⟨Nat.le_of_ble_eq_true rfl, Nat.le_of_ble_eq_true rfl⟩ (fun r_13 hq_14 => ?_)
    refine lv_if_ne (tgt := 27) hx hb dX4_takeNumber_18 (by decide) (fun (c_15 : ¬ (r_13 = 0)) => ?_) (fun (c_15 : r_13 = 0) => ?_)
    · have u_16 := hq_14.2.1 c_15
      refine lv_aload_n hx hb dX4_takeNumber_27 rfl (lv_at hl 1 rfl) ?_
      refine tm_Vv (As := []) (rest := []) ⟨hx, hb, hml, hown, htg⟩ (c_X4_advance l D E G _ a C hT) (cwV 0 htg (oh_gV q_508 q_509 q_510 q_71 q_511) rfl rfl rfl pdVX4_advance ⟨Nat.le_of_ble_eq_true rfl, Nat.le_of_ble_eq_true rfl⟩) hK hP hD hG hS hA (va_recv hK hP (ci := 4) (q0 := 5) rfl (oh_wg (by decide) (sX_5 hT))) rfl hl.1 rfl (Nat.le_of_ble_eq_true rfl) dX4_takeNumber_28 ⟨Nat.le_of_ble_eq_true rfl, Nat.le_of_ble_eq_true rfl⟩ (fun C_18 H locs hq_19 hP hD hS => ?_)
      obtain ⟨hT, f_20, hq_19⟩ := hq_19
      have hF := fr_tr hF f_20 (by decide) (by decide)
      refine W.widen (k := 0) (n := 0) (Nat.le_refl _) (Nat.le_refl _) ?_
      have t_21 := hT
      refine lv_iload_n hx hb dX4_takeNumber_31 rfl (lv_at hl 0 rfl) ?_
      rw [hQ]
      exact W.iret (v := r_1) hx hb hr (fun t ht hW => ⟨⟨r_1, C_18, rfl, ⟨hT, hF, ⟨(fun h8 => ((fun h7 => Eq.trans (hq_19).symm h7) h8)), (fun _ => ⟨u_16.1, u_16.2⟩)⟩⟩, ⟨by rw [ht]; exact hP, hD⟩⟩, hS.F ht⟩) hS.2.2 dX4_takeNumber_32
    · have u_22 := hq_14.2.2 c_15
      refine lv_aload_n hx hb dX4_takeNumber_21 rfl (lv_at hl 1 rfl) ?_
      refine tm_Vv (As := []) (rest := []) ⟨hx, hb, hml, hown, htg⟩ (c_X4_fail l D E G _ a C hT) (cwV 0 htg (oh_gV q_596 q_580 q_581 q_71 q_582) rfl rfl rfl pdVX4_fail ⟨Nat.le_of_ble_eq_true rfl, Nat.le_of_ble_eq_true rfl⟩) hK hP hD hG hS hA (va_recv hK hP (ci := 4) (q0 := 5) rfl (oh_wg (by decide) (sX_5 hT))) rfl hl.1 rfl (Nat.le_of_ble_eq_true rfl) dX4_takeNumber_22 ⟨Nat.le_of_ble_eq_true rfl, Nat.le_of_ble_eq_true rfl⟩ (fun C_24 H locs hq_25 hP hD hS => ?_)
      obtain ⟨hT, f_26, hq_25⟩ := hq_25
      have hF := fr_tr hF f_26 (by decide) (by decide)
      refine W.widen (k := 0) (n := 0) (Nat.le_refl _) (Nat.le_refl _) ?_
      have t_27 := hT
      refine lv_iconst (v := (-1)) hx hb dX4_takeNumber_25 (by decide) ?_
      rw [hQ]
      exact W.iret (v := (-1)) hx hb hr (fun t ht hW => ⟨⟨(-1), C_24, rfl, ⟨hT, hF, ⟨(fun h8 => ((fun h7 => absurd h7 (oh_nfl hq_25)) h8)), (fun h8 => absurd h8 (oh_nfl hq_25))⟩⟩, ⟨by rw [ht]; exact hP, hD⟩⟩, hS.F ht⟩) hS.2.2 dX4_takeNumber_26

theorem oh_ap1 {z n s0 s : Int32} (hz : rg z 0 3) (hs0 : rg s0 0 250) (hn : rg n 1 4) (hp : s0.toInt + n.toInt ≤ 250) (hi : s.toInt + z.toInt = s0.toInt + n.toInt - 1) : rg s (-2147483648) 249 := ⟨by have := Int32.le_toInt s; omega, by have := hz.1; omega⟩
theorem oh_add1 {s : Int32} (h : rg s 0 249) : (s + 1).toInt = s.toInt + 1 := by
  rw [Int32.toInt_add]
  exact oh_bmod (by show _ ≤ s.toInt + 1; have := h.1; omega) (by show s.toInt + 1 ≤ _; have := h.2; omega)
theorem oh_sub1 {z : Int32} (h : rg z 0 4) : (z + (-1)).toInt = z.toInt - 1 := by
  rw [Int32.toInt_add]
  exact oh_bmod (by show _ ≤ z.toInt + (-1); have := h.1; omega) (by show z.toInt + (-1) ≤ _; have := h.2; omega)
theorem oh_sub1' {z : Int32} (h : rg z 1 4) : (z - 1).toInt = z.toInt - 1 := by
  rw [Int32.toInt_sub]
  exact oh_bmod (by show _ ≤ z.toInt - 1; have := h.1; omega) (by show z.toInt - 1 ≤ _; have := h.2; omega)

set_option maxHeartbeats 4000000 in
set_option maxRecDepth 100000 in
theorem c_X4_append (l : Launch) (D : va_G) (E : Nat → ClassId) (G : Nat → Nat) (sz : Nat) (a : Nat → Nat) (C : Nat → va_E) (hT : TyX a E C) (x1 : Int32) (x2 : Int32) (hx2 : rg x2 1 4) (hp : (gi (C 5) 1).toInt + x2.toInt ≤ 250) : Met l yX4_append (oh_w yX4_append cX4_append 4 none) ({ frames := 0, cells := 0, slots := 0, locals := 0 }) (oh_Pm D E G [.ref (a 5), .int x1, .int x2] (oh_W 35 a C) sz) (va_Qv (fun (u : Nat → va_E) => TyX a E u ∧ fr [(5, 6), (32, 33)] [] C u ∧ ((gi (u 5) 1).toInt = (gi (C 5) 1).toInt + x2.toInt)) (oh_B D (va_A (oh_W 35 a C) sz) (fun u => oh_W 35 a u)) (va_A (oh_W 35 a C) sz)) 0 0 (va_A (oh_W 35 a C) sz) := by
  refine Met.ofW (cc := cX4_append) (maxL := 4) (ret := none) (by decide) rfl ?_
  intro p e s m args below meth c s₁ B hml hv
  obtain ⟨rfl, hsz, hP, hK, hD0, hG⟩ := hv
  have hx := B.exec
  have hb := B.bytes
  have hr := B.returns
  have hts := atoms_spec (ws := (oh_w yX4_append cX4_append 4 none)) B.pre
  have htg : ∀ w ∈ oh_t, w.before _ s = true := fun w h => hts w (List.mem_cons_of_mem _ h)
  have hown : s.vm.findClass RX4 = some m.cls := findClass_of_methodNamed B.named
  have hlocks := B.notSynchronized
  have hT0 := hT
  subst hsz
  have hD := hD0.self (sz := s.heap.size)
  generalize hAe : va_A (oh_W 35 a C) s.heap.size = A at hD hG ⊢
  have hA : ∀ q : Nat, s.heap.size ≤ q → A q := fun q h => by rw [← hAe]; exact Or.inr h
  have hS : va_S A s.heap s.heap [] := va_S.rf
  have hF : fr [(5, 6), (32, 33)] [] C C := fr_rf
  have hl := lv_entry ([.ref (a 5), .int x1, .int x2]) (n := 4) (Nat.le_of_ble_eq_true rfl)
  rw [lg_entry_eq]
  generalize (lg_sl ([.ref (a 5), .int x1, .int x2]) ++ List.replicate (4 - (lg_sl ([.ref (a 5), .int x1, .int x2])).length) Slot.unset).toArray = ls at hl ⊢
  have hl : lv_has ls 4 [(0, .ref (a 5)), (1, .int x1), (2, .int x2)] := hl
  refine oh_genQ (fun Q hQ => ?_)
  refine lv_iload_n hx hb dX4_append_0 rfl (lv_at hl 2 rfl) ?_
  refine lv_iconst (v := 1) hx hb dX4_append_1 (by decide) ?_
  refine lv_isub hx hb dX4_append_2 ?_
  refine lv_istore_n (lv' := [(3, .int (x2 - 1)), (0, .ref (a 5)), (1, .int x1), (2, .int x2)]) hx hb dX4_append_3 rfl hl (by decide) rfl (fun ls hl => ?_)
  have L_4 : ∀ (d : Nat) (K4 : Nat → va_E) (z4_3 : Int32) (H : Heap) (locs : List Loc) (ls : Array Slot), (z4_3.toInt + 1).toNat = d → rg z4_3 (-1) 3 → ((gi (K4 5) 1).toInt + z4_3.toInt = (gi (C 5) 1).toInt + x2.toInt - 1) → TyX a E K4 → fr [(5, 6), (32, 33)] [] C K4 → fr [(5, 6), (32, 33)] [] C K4 → va_P D vwCl (oh_W 35 a K4) H → va_D A (oh_W 35 a K4) → va_S A s.heap H locs → lv_has ls 4 [(3, .int z4_3), (0, .ref (a 5)), (1, .int x1), (2, .int x2)] → W p l e ({ frames := 0, cells := 0, slots := 0, locals := 0 }) s m (([.ref (a 5), .int x1, .int x2] : List Value).toArray) below meth c H locs 0 0 Q (F0 m 4 ls []) := by
    intro d
    induction d using Nat.strongRecOn with
    | ind d ih_4 =>
    intro K4 z4_3 H locs ls hd_4 hz4_3 hv_4 hT hF hLF_4 hP hD hS hl
    have t_1 := hT
    refine lv_iload_n hx hb dX4_append_4 rfl (lv_at hl 0 rfl) ?_
    refine lv_if_lt (tgt := 43) hx hb dX4_append_5 (by decide) (fun (c_2 : z4_3 < 0) => ?_) (fun (c_2 : ¬ (z4_3 < 0)) => ?_)
    · rw [hQ]
      exact W.vret hx hb hr (fun t ht hW => ⟨⟨K4, rfl, ⟨hT, hF, (by have h7 := (rn_ltu (u' := (-1)) c_2 hz4_3 (rg_c (v := 0) (lo := 0) (hi := 0) (by decide)) (by decide)); have h8 := h7.1; have h9 := h7.2; omega)⟩, ⟨by rw [ht]; exact hP, hD⟩⟩, hS.F ht⟩) hS.2.2 dX4_append_43
    · refine lv_aload_n hx hb dX4_append_8 rfl (lv_at hl 1 rfl) ?_
      refine va_get (D := D) (ci := 4) (v := .ref (a 32)) (C := RX4) (T := TX4) (N := 6) hx hb htg ig_4 hown hK hP 5 (oh_wg (by decide) (sX_5 hT)) rfl 0 (by decide) (htg _ q_217) (fun _ h9 => h9) rfl dX4_append_9 ?_
      refine lv_aload_n hx hb dX4_append_12 rfl (lv_at hl 1 rfl) ?_
      refine va_get (D := D) (ci := 4) (v := .int (gi (K4 5) 1)) (C := RX4) (T := TX4) (N := 6) hx hb htg ig_4 hown hK hP 5 (oh_wg (by decide) (sX_5 hT)) rfl 1 (by decide) (htg _ q_218) (fun _ h9 => h9) rfl dX4_append_13 ?_
      refine lv_iload_n hx hb dX4_append_16 rfl (lv_at hl 2 rfl) ?_
      refine lv_bipush (v := 8) hx hb dX4_append_17 (by decide) ?_
      refine lv_iload_n hx hb dX4_append_19 rfl (lv_at hl 0 rfl) ?_
      refine lv_imul hx hb dX4_append_20 ?_
      refine lv_ishr hx hb dX4_append_21 ?_
      refine lv_sipush (v := 255) hx hb dX4_append_22 (by decide) ?_
      refine lv_iand hx hb dX4_append_25 ?_
      have n_3 : vp_in (gi (K4 5) 1) 250 := (rg_in (l := 0) (u := 249) ⟨(fX_5_1 t_1).1, (oh_ap1 (rg_w (rn_lel (Int32.not_lt.mp c_2) (rg_c (v := 0) (lo := 0) (hi := 0) (by decide)) hz4_3) (by decide)) (fX_5_1 hT0) hx2 hp hv_4).2⟩ (by decide))
      refine th_iast (T := TyX a E) (Rl := fr [(5, 6), (32, 33)] [] C) hx hb hK hP hD hS 32 (by decide) (sX_32 hT) n_3 (hT.up 32 (tA_upd (tX_32 hT) tA_any)) (fr_st hF (by decide) (by decide)) dX4_append_26 (fun C_4 H locs e_5 hT hF hP hD hS => ?_)
      have t_6 := hT
      refine lv_aload_n hx hb dX4_append_27 rfl (lv_at hl 1 rfl) ?_
      refine lv_dup hx hb dX4_append_28 rfl ?_
      refine va_get (D := D) (ci := 4) (v := .int (gi (K4 5) 1)) (C := RX4) (T := TX4) (N := 6) hx hb htg ig_4 hown hK hP 5 (oh_wg (by decide) (sX_5 hT)) rfl 1 (by decide) (htg _ q_218) (fun _ h9 => h9) (oh_fv (c := C_4 5) (j := 1) rfl (congrArg (fun z => gi z 1) (th_un e_5 (by decide)))) dX4_append_29 ?_
      refine lv_iconst (v := 1) hx hb dX4_append_32 (by decide) ?_
      refine lv_iadd hx hb dX4_append_33 ?_
      refine th_put (Tp := TyX a E) (Rl := fr [(5, 6), (32, 33)] [] C) (ci := 4) (v := .int ((gi (K4 5) 1) + 1)) (ty := .int) (CC := RX4) (T := TX4) (N := 6) hx hb htg ig_4 tyX4 tyX4_ok nmX4 hown hK hP hD hS 5 (by decide) (sX_5 hT) rfl 1 (by decide) (htg _ q_218) (fun _ h9 => h9) rfl (by decide +kernel) rfl rfl (Nat.le_of_ble_eq_true rfl) (hT.up 5 ⟨rfl, (rg_w (rg_add (lo := 1) (hi := 250) (l := 0) (u := 249) ⟨(fX_5_1 t_1).1, (oh_ap1 (rg_w (rn_lel (Int32.not_lt.mp c_2) (rg_c (v := 0) (lo := 0) (hi := 0) (by decide)) hz4_3) (by decide)) (fX_5_1 hT0) hx2 hp hv_4).2⟩ (rg_c (v := 1) (lo := 1) (hi := 1) (by decide)) (by decide)) (by decide)), (fX_5_2 hT), (fX_5_4 hT), (fX_5_5 hT)⟩) (fr_st hF (by decide) (by decide)) dX4_append_34 (fun C_7 H locs e_8 hT hF hP hD hS => ?_)
      have t_9 := hT
      refine lv_iinc (v := z4_3 + (-1)) (lv' := [(3, .int (z4_3 + (-1))), (0, .ref (a 5)), (1, .int x1), (2, .int x2)]) hx hb dX4_append_37 hl (k := 0) rfl (by rfl) (by decide) rfl (fun ls hl => ?_)
      refine lv_goto (tgt := 4) hx hb dX4_append_40 (by decide) ?_
      exact ih_4 _ (hd_4 ▸ mu_dn (rn_lel (Int32.not_lt.mp c_2) (rg_c (v := 0) (lo := 0) (hi := 0) (by decide)) hz4_3) (by decide)) C_7 (z4_3 + (-1)) _ _ ls rfl (rg_w (rg_add (lo := (-1)) (hi := 2) (rn_lel (Int32.not_lt.mp c_2) (rg_c (v := 0) (lo := 0) (hi := 0) (by decide)) hz4_3) (rg_c (v := (-1)) (lo := (-1)) (hi := (-1)) (by decide)) (by decide)) (by decide)) (by rw [(show gi (C_7 5) 1 = ((gi (K4 5) 1) + 1) by rw [e_8]; rfl), oh_add1 ⟨(fX_5_1 t_1).1, (oh_ap1 (rg_w (rn_lel (Int32.not_lt.mp c_2) (rg_c (v := 0) (lo := 0) (hi := 0) (by decide)) hz4_3) (by decide)) (fX_5_1 hT0) hx2 hp hv_4).2⟩, oh_sub1 (rg_w (rn_lel (Int32.not_lt.mp c_2) (rg_c (v := 0) (lo := 0) (hi := 0) (by decide)) hz4_3) (by decide))]; omega) hT hF (fr_ste (fr_ste hLF_4 e_5 (by decide) (by decide)) e_8 (by decide) (by decide)) hP hD hS (lv_sub hl [0, 1, 2, 3] rfl)
  exact L_4 _ C (x2 - 1) _ _ ls rfl (rg_w (rg_sub (lo := 0) (hi := 3) hx2 (rg_c (v := 1) (lo := 1) (hi := 1) (by decide)) (by decide)) (by decide)) (by rw [oh_sub1' hx2]; omega) hT hF fr_rf hP hD hS (lv_sub hl [0, 1, 2, 3] rfl)
