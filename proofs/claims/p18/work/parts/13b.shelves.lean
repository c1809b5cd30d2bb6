set_option maxHeartbeats 4000000 in
set_option maxRecDepth 100000 in
theorem c_X3_holdsNothing (l : Launch) (D : va_G) (E : Nat → ClassId) (G : Nat → Nat) (a : Nat → Nat) (C : Nat → va_E) (hT : TyX a E C) (x1 : Int32) (hx1 : rg x1 0 7) : Met l yX3_holdsNothing (oh_w yX3_holdsNothing cX3_holdsNothing 2 (some .boolean)) ({ frames := 0, cells := 0, slots := 0, locals := 0 }) (oh_Pp D E G [.ref (a 4), .int x1] (oh_W 35 a C)) (vp_Si (fun r => (r = 0 ∨ r = 1))) 0 0 (fun _ => False) := by
  refine Met.ofW (cc := cX3_holdsNothing) (maxL := 2) (ret := (some .boolean)) (by decide) rfl ?_
  intro p e s m args below meth c s₁ B hml hv
  obtain ⟨rfl, hP, hK, hG⟩ := hv
  have hx := B.exec
  have hb := B.bytes
  have hr := B.returns
  have hts := atoms_spec (ws := (oh_w yX3_holdsNothing cX3_holdsNothing 2 (some .boolean))) B.pre
  have htg : ∀ w ∈ oh_t, w.before _ s = true := fun w h => hts w (List.mem_cons_of_mem _ h)
  have hown : s.vm.findClass RX3 = some m.cls := findClass_of_methodNamed B.named
  have hlocks := B.notSynchronized
  have hT0 := hT
  have hS : va_S (fun _ => False) s.heap s.heap [] := va_S.rf
  have hl := lv_entry ([.ref (a 4), .int x1]) (n := 2) (Nat.le_of_ble_eq_true rfl)
  rw [lg_entry_eq]
  generalize (lg_sl ([.ref (a 4), .int x1]) ++ List.replicate (2 - (lg_sl ([.ref (a 4), .int x1])).length) Slot.unset).toArray = ls at hl ⊢
  have hl : lv_has ls 2 [(0, .ref (a 4)), (1, .int x1)] := hl
  refine oh_genQ (fun Q hQ => ?_)
  refine lv_aload_n hx hb dX3_holdsNothing_0 rfl (lv_at hl 0 rfl) ?_
  refine va_get (D := D) (ci := 3) (v := .ref (a 29)) (C := RX3) (T := TX3) (N := 3) hx hb htg ig_3 hown hK hP 4 (oh_wg (by decide) (sX_4 hT)) rfl 0 (by decide) (htg _ q_198) (fun _ h9 => h9) rfl dX3_holdsNothing_1 ?_
  refine lv_iload_n hx hb dX3_holdsNothing_4 rfl (lv_at hl 1 rfl) ?_
  have n_1 : vp_in x1 8 := (rg_in hx1 (by decide))
  refine th_iald hx hb hK hP 29 (by decide) (sX_29 hT) n_1 dX3_holdsNothing_5 ?_
  refine lv_iconst (v := (-1)) hx hb dX3_holdsNothing_6 (by decide) ?_
  refine lv_icmp_ne (tgt := 14) hx hb dX3_holdsNothing_7 (by decide) (fun (c_2 : ¬ ((ga (C 29) (x1).toNatClampNeg) = (-1))) => ?_) (fun (c_2 : (ga (C 29) (x1).toNatClampNeg) = (-1)) => ?_)
  · refine lv_iconst (v := 0) hx hb dX3_holdsNothing_14 (by decide) ?_
    rw [hQ]
    exact W.zret (v := 0) (ty := .boolean) hx hb hr (by decide) (fun t ht hW => ⟨0, rfl, (Or.inl rfl), ht⟩) (fun q h => by cases h) dX3_holdsNothing_15
  · refine lv_iconst (v := 1) hx hb dX3_holdsNothing_10 (by decide) ?_
    refine lv_goto (tgt := 15) hx hb dX3_holdsNothing_11 (by decide) ?_
    rw [hQ]
    exact W.zret (v := 1) (ty := .boolean) hx hb hr (by decide) (fun t ht hW => ⟨1, rfl, (Or.inr rfl), ht⟩) (fun q h => by cases h) dX3_holdsNothing_15

set_option maxHeartbeats 4000000 in
set_option maxRecDepth 100000 in
theorem c_X3_holdsBridge (l : Launch) (D : va_G) (E : Nat → ClassId) (G : Nat → Nat) (a : Nat → Nat) (C : Nat → va_E) (hT : TyX a E C) (x1 : Int32) (hx1 : rg x1 0 7) : Met l yX3_holdsBridge (oh_w yX3_holdsBridge cX3_holdsBridge 2 (some .boolean)) ({ frames := 0, cells := 0, slots := 0, locals := 0 }) (oh_Pp D E G [.ref (a 4), .int x1] (oh_W 35 a C)) (vp_Si (fun r => (r = 0 ∨ r = 1))) 0 0 (fun _ => False) := by
  refine Met.ofW (cc := cX3_holdsBridge) (maxL := 2) (ret := (some .boolean)) (by decide) rfl ?_
  intro p e s m args below meth c s₁ B hml hv
  obtain ⟨rfl, hP, hK, hG⟩ := hv
  have hx := B.exec
  have hb := B.bytes
  have hr := B.returns
  have hts := atoms_spec (ws := (oh_w yX3_holdsBridge cX3_holdsBridge 2 (some .boolean))) B.pre
  have htg : ∀ w ∈ oh_t, w.before _ s = true := fun w h => hts w (List.mem_cons_of_mem _ h)
  have hown : s.vm.findClass RX3 = some m.cls := findClass_of_methodNamed B.named
  have hlocks := B.notSynchronized
  have hT0 := hT
  have hS : va_S (fun _ => False) s.heap s.heap [] := va_S.rf
  have hl := lv_entry ([.ref (a 4), .int x1]) (n := 2) (Nat.le_of_ble_eq_true rfl)
  rw [lg_entry_eq]
  generalize (lg_sl ([.ref (a 4), .int x1]) ++ List.replicate (2 - (lg_sl ([.ref (a 4), .int x1])).length) Slot.unset).toArray = ls at hl ⊢
  have hl : lv_has ls 2 [(0, .ref (a 4)), (1, .int x1)] := hl
  refine oh_genQ (fun Q hQ => ?_)
  refine lv_aload_n hx hb dX3_holdsBridge_0 rfl (lv_at hl 0 rfl) ?_
  refine va_get (D := D) (ci := 3) (v := .ref (a 29)) (C := RX3) (T := TX3) (N := 3) hx hb htg ig_3 hown hK hP 4 (oh_wg (by decide) (sX_4 hT)) rfl 0 (by decide) (htg _ q_198) (fun _ h9 => h9) rfl dX3_holdsBridge_1 ?_
  refine lv_iload_n hx hb dX3_holdsBridge_4 rfl (lv_at hl 1 rfl) ?_
  have n_1 : vp_in x1 8 := (rg_in hx1 (by decide))
  refine th_iald hx hb hK hP 29 (by decide) (sX_29 hT) n_1 dX3_holdsBridge_5 ?_
  refine lv_bipush (v := 10) hx hb dX3_holdsBridge_6 (by decide) ?_
  refine lv_icmp_lt (tgt := 15) hx hb dX3_holdsBridge_8 (by decide) (fun (c_2 : (ga (C 29) (x1).toNatClampNeg) < 10) => ?_) (fun (c_2 : ¬ ((ga (C 29) (x1).toNatClampNeg) < 10)) => ?_)
  · refine lv_iconst (v := 0) hx hb dX3_holdsBridge_15 (by decide) ?_
    rw [hQ]
    exact W.zret (v := 0) (ty := .boolean) hx hb hr (by decide) (fun t ht hW => ⟨0, rfl, (Or.inl rfl), ht⟩) (fun q h => by cases h) dX3_holdsBridge_16
  · refine lv_iconst (v := 1) hx hb dX3_holdsBridge_11 (by decide) ?_
    refine lv_goto (tgt := 16) hx hb dX3_holdsBridge_12 (by decide) ?_
    rw [hQ]
    exact W.zret (v := 1) (ty := .boolean) hx hb hr (by decide) (fun t ht hW => ⟨1, rfl, (Or.inr rfl), ht⟩) (fun q h => by cases h) dX3_holdsBridge_16

set_option maxHeartbeats 4000000 in
set_option maxRecDepth 100000 in
theorem c_X3_holdsRow (l : Launch) (D : va_G) (E : Nat → ClassId) (G : Nat → Nat) (a : Nat → Nat) (C : Nat → va_E) (hT : TyX a E C) (x1 : Int32) (hx1 : rg x1 0 7) : Met l yX3_holdsRow (oh_w yX3_holdsRow cX3_holdsRow 2 (some .boolean)) ({ frames := 1, cells := 0, slots := 0, locals := 21 }) (oh_Pp D E G [.ref (a 4), .int x1] (oh_W 35 a C)) (vp_Si (fun r => (r = 0 ∨ r = 1))) 0 0 (fun _ => False) := by
  refine Met.ofW (cc := cX3_holdsRow) (maxL := 2) (ret := (some .boolean)) (by decide) rfl ?_
  intro p e s m args below meth c s₁ B hml hv
  obtain ⟨rfl, hP, hK, hG⟩ := hv
  have hx := B.exec
  have hb := B.bytes
  have hr := B.returns
  have hts := atoms_spec (ws := (oh_w yX3_holdsRow cX3_holdsRow 2 (some .boolean))) B.pre
  have htg : ∀ w ∈ oh_t, w.before _ s = true := fun w h => hts w (List.mem_cons_of_mem _ h)
  have hown : s.vm.findClass RX3 = some m.cls := findClass_of_methodNamed B.named
  have hlocks := B.notSynchronized
  have hT0 := hT
  have hS : va_S (fun _ => False) s.heap s.heap [] := va_S.rf
  have hl := lv_entry ([.ref (a 4), .int x1]) (n := 2) (Nat.le_of_ble_eq_true rfl)
  rw [lg_entry_eq]
  generalize (lg_sl ([.ref (a 4), .int x1]) ++ List.replicate (2 - (lg_sl ([.ref (a 4), .int x1])).length) Slot.unset).toArray = ls at hl ⊢
  have hl : lv_has ls 2 [(0, .ref (a 4)), (1, .int x1)] := hl
  refine oh_genQ (fun Q hQ => ?_)
  refine lv_aload_n hx hb dX3_holdsRow_0 rfl (lv_at hl 0 rfl) ?_
  refine lv_iload_n hx hb dX3_holdsRow_1 rfl (lv_at hl 1 rfl) ?_
  refine tq_V (As := [.int x1]) (rest := []) (ws := (oh_W 35 a C)) ⟨hx, hb, hml, hown, htg⟩ (c_X3_holdsNothing l D E G a C hT x1 (rg_w hx1 (by decide))) (cwV 1 htg (oh_gV q_339 q_317 q_318 q_70 q_319) rfl rfl rfl pdVX3_holdsNothing ⟨Nat.le_of_ble_eq_true rfl, Nat.le_of_ble_eq_true rfl⟩) hK hP hG hS (va_recv hK hP (ci := 3) (q0 := 4) rfl (oh_wg (by decide) (sX_4 hT))) rfl hl.1 rfl (Nat.le_of_ble_eq_true rfl) dX3_holdsRow_2 ⟨Nat.le_of_ble_eq_true rfl, Nat.le_of_ble_eq_true rfl⟩ (fun r_1 hq_2 => ?_)
  refine lv_if_ne (tgt := 20) hx hb dX3_holdsRow_5 (by decide) (fun (c_3 : ¬ (r_1 = 0)) => ?_) (fun (c_3 : r_1 = 0) => ?_)
  · refine lv_iconst (v := 0) hx hb dX3_holdsRow_20 (by decide) ?_
    rw [hQ]
    exact W.zret (v := 0) (ty := .boolean) hx hb hr (by decide) (fun t ht hW => ⟨0, rfl, (Or.inl rfl), ht⟩) (fun q h => by cases h) dX3_holdsRow_21
  · refine lv_aload_n hx hb dX3_holdsRow_8 rfl (lv_at hl 0 rfl) ?_
    refine lv_iload_n hx hb dX3_holdsRow_9 rfl (lv_at hl 1 rfl) ?_
    refine tq_V (As := [.int x1]) (rest := []) (ws := (oh_W 35 a C)) ⟨hx, hb, hml, hown, htg⟩ (c_X3_holdsBridge l D E G a C hT x1 (rg_w hx1 (by decide))) (cwV 1 htg (oh_gV q_340 q_313 q_314 q_70 q_315) rfl rfl rfl pdVX3_holdsBridge ⟨Nat.le_of_ble_eq_true rfl, Nat.le_of_ble_eq_true rfl⟩) hK hP hG hS (va_recv hK hP (ci := 3) (q0 := 4) rfl (oh_wg (by decide) (sX_4 hT))) rfl hl.1 rfl (Nat.le_of_ble_eq_true rfl) dX3_holdsRow_10 ⟨Nat.le_of_ble_eq_true rfl, Nat.le_of_ble_eq_true rfl⟩ (fun r_4 hq_5 => ?_)
    refine lv_if_ne (tgt := 20) hx hb dX3_holdsRow_13 (by decide) (fun (c_6 : ¬ (r_4 = 0)) => ?_) (fun (c_6 : r_4 = 0) => ?_)
    · refine lv_iconst (v := 0) hx hb dX3_holdsRow_20 (by decide) ?_
      rw [hQ]
      exact W.zret (v := 0) (ty := .boolean) hx hb hr (by decide) (fun t ht hW => ⟨0, rfl, (Or.inl rfl), ht⟩) (fun q h => by cases h) dX3_holdsRow_21
    · refine lv_iconst (v := 1) hx hb dX3_holdsRow_16 (by decide) ?_
      refine lv_goto (tgt := 21) hx hb dX3_holdsRow_17 (by decide) ?_
      rw [hQ]
      exact W.zret (v := 1) (ty := .boolean) hx hb hr (by decide) (fun t ht hW => ⟨1, rfl, (Or.inr rfl), ht⟩) (fun q h => by cases h) dX3_holdsRow_21

set_option maxHeartbeats 4000000 in
set_option maxRecDepth 100000 in
theorem c_X3_holdsUnlikeRows (l : Launch) (D : va_G) (E : Nat → ClassId) (G : Nat → Nat) (a : Nat → Nat) (C : Nat → va_E) (hT : TyX a E C) (x1 : Int32) (x2 : Int32) (hx1 : rg x1 0 7) (hx2 : rg x2 0 7) : Met l yX3_holdsUnlikeRows (oh_w yX3_holdsUnlikeRows cX3_holdsUnlikeRows 3 (some .boolean)) ({ frames := 2, cells := 0, slots := 0, locals := 42 }) (oh_Pp D E G [.ref (a 4), .int x1, .int x2] (oh_W 35 a C)) (vp_Si (fun r => (r = 0 ∨ r = 1))) 0 0 (fun _ => False) := by
  refine Met.ofW (cc := cX3_holdsUnlikeRows) (maxL := 3) (ret := (some .boolean)) (by decide) rfl ?_
  intro p e s m args below meth c s₁ B hml hv
  obtain ⟨rfl, hP, hK, hG⟩ := hv
  have hx := B.exec
  have hb := B.bytes
  have hr := B.returns
  have hts := atoms_spec (ws := (oh_w yX3_holdsUnlikeRows cX3_holdsUnlikeRows 3 (some .boolean))) B.pre
  have htg : ∀ w ∈ oh_t, w.before _ s = true := fun w h => hts w (List.mem_cons_of_mem _ h)
  have hown : s.vm.findClass RX3 = some m.cls := findClass_of_methodNamed B.named
  have hlocks := B.notSynchronized
  have hT0 := hT
  have hS : va_S (fun _ => False) s.heap s.heap [] := va_S.rf
  have hl := lv_entry ([.ref (a 4), .int x1, .int x2]) (n := 3) (Nat.le_of_ble_eq_true rfl)
  rw [lg_entry_eq]
  generalize (lg_sl ([.ref (a 4), .int x1, .int x2]) ++ List.replicate (3 - (lg_sl ([.ref (a 4), .int x1, .int x2])).length) Slot.unset).toArray = ls at hl ⊢
  have hl : lv_has ls 3 [(0, .ref (a 4)), (1, .int x1), (2, .int x2)] := hl
  refine oh_genQ (fun Q hQ => ?_)
  refine lv_aload_n hx hb dX3_holdsUnlikeRows_0 rfl (lv_at hl 0 rfl) ?_
  refine lv_iload_n hx hb dX3_holdsUnlikeRows_1 rfl (lv_at hl 1 rfl) ?_
  refine tq_V (As := [.int x1]) (rest := []) (ws := (oh_W 35 a C)) ⟨hx, hb, hml, hown, htg⟩ (c_X3_holdsRow l D E G a C hT x1 (rg_w hx1 (by decide))) (cwV 1 htg (oh_gV q_335 q_336 q_337 q_70 q_338) rfl rfl rfl pdVX3_holdsRow ⟨Nat.le_of_ble_eq_true rfl, Nat.le_of_ble_eq_true rfl⟩) hK hP hG hS (va_recv hK hP (ci := 3) (q0 := 4) rfl (oh_wg (by decide) (sX_4 hT))) rfl hl.1 rfl (Nat.le_of_ble_eq_true rfl) dX3_holdsUnlikeRows_2 ⟨Nat.le_of_ble_eq_true rfl, Nat.le_of_ble_eq_true rfl⟩ (fun r_1 hq_2 => ?_)
  refine lv_if_eq (tgt := 35) hx hb dX3_holdsUnlikeRows_5 (by decide) (fun (c_3 : r_1 = 0) => ?_) (fun (c_3 : ¬ (r_1 = 0)) => ?_)
  · refine lv_iconst (v := 0) hx hb dX3_holdsUnlikeRows_35 (by decide) ?_
    rw [hQ]
    exact W.zret (v := 0) (ty := .boolean) hx hb hr (by decide) (fun t ht hW => ⟨0, rfl, (Or.inl rfl), ht⟩) (fun q h => by cases h) dX3_holdsUnlikeRows_36
  · refine lv_aload_n hx hb dX3_holdsUnlikeRows_8 rfl (lv_at hl 0 rfl) ?_
    refine lv_iload_n hx hb dX3_holdsUnlikeRows_9 rfl (lv_at hl 2 rfl) ?_
    refine tq_V (As := [.int x2]) (rest := []) (ws := (oh_W 35 a C)) ⟨hx, hb, hml, hown, htg⟩ (c_X3_holdsRow l D E G a C hT x2 (rg_w hx2 (by decide))) (cwV 1 htg (oh_gV q_335 q_336 q_337 q_70 q_338) rfl rfl rfl pdVX3_holdsRow ⟨Nat.le_of_ble_eq_true rfl, Nat.le_of_ble_eq_true rfl⟩) hK hP hG hS (va_recv hK hP (ci := 3) (q0 := 4) rfl (oh_wg (by decide) (sX_4 hT))) rfl hl.1 rfl (Nat.le_of_ble_eq_true rfl) dX3_holdsUnlikeRows_10 ⟨Nat.le_of_ble_eq_true rfl, Nat.le_of_ble_eq_true rfl⟩ (fun r_4 hq_5 => ?_)
    refine lv_if_eq (tgt := 35) hx hb dX3_holdsUnlikeRows_13 (by decide) (fun (c_6 : r_4 = 0) => ?_) (fun (c_6 : ¬ (r_4 = 0)) => ?_)
    · refine lv_iconst (v := 0) hx hb dX3_holdsUnlikeRows_35 (by decide) ?_
      rw [hQ]
      exact W.zret (v := 0) (ty := .boolean) hx hb hr (by decide) (fun t ht hW => ⟨0, rfl, (Or.inl rfl), ht⟩) (fun q h => by cases h) dX3_holdsUnlikeRows_36
    · refine lv_aload_n hx hb dX3_holdsUnlikeRows_16 rfl (lv_at hl 0 rfl) ?_
      refine va_get (D := D) (ci := 3) (v := .ref (a 29)) (C := RX3) (T := TX3) (N := 3) hx hb htg ig_3 hown hK hP 4 (oh_wg (by decide) (sX_4 hT)) rfl 0 (by decide) (htg _ q_198) (fun _ h9 => h9) rfl dX3_holdsUnlikeRows_17 ?_
      refine lv_iload_n hx hb dX3_holdsUnlikeRows_20 rfl (lv_at hl 1 rfl) ?_
      have n_7 : vp_in x1 8 := (rg_in hx1 (by decide))
      refine th_iald hx hb hK hP 29 (by decide) (sX_29 hT) n_7 dX3_holdsUnlikeRows_21 ?_
      refine lv_aload_n hx hb dX3_holdsUnlikeRows_22 rfl (lv_at hl 0 rfl) ?_
      refine va_get (D := D) (ci := 3) (v := .ref (a 29)) (C := RX3) (T := TX3) (N := 3) hx hb htg ig_3 hown hK hP 4 (oh_wg (by decide) (sX_4 hT)) rfl 0 (by decide) (htg _ q_198) (fun _ h9 => h9) rfl dX3_holdsUnlikeRows_23 ?_
      refine lv_iload_n hx hb dX3_holdsUnlikeRows_26 rfl (lv_at hl 2 rfl) ?_
      have n_8 : vp_in x2 8 := (rg_in hx2 (by decide))
      refine th_iald hx hb hK hP 29 (by decide) (sX_29 hT) n_8 dX3_holdsUnlikeRows_27 ?_
      refine lv_icmp_eq (tgt := 35) hx hb dX3_holdsUnlikeRows_28 (by decide) (fun (c_9 : (ga (C 29) (x1).toNatClampNeg) = (ga (C 29) (x2).toNatClampNeg)) => ?_) (fun (c_9 : ¬ ((ga (C 29) (x1).toNatClampNeg) = (ga (C 29) (x2).toNatClampNeg))) => ?_)
      · refine lv_iconst (v := 0) hx hb dX3_holdsUnlikeRows_35 (by decide) ?_
        rw [hQ]
        exact W.zret (v := 0) (ty := .boolean) hx hb hr (by decide) (fun t ht hW => ⟨0, rfl, (Or.inl rfl), ht⟩) (fun q h => by cases h) dX3_holdsUnlikeRows_36
      · refine lv_iconst (v := 1) hx hb dX3_holdsUnlikeRows_31 (by decide) ?_
        refine lv_goto (tgt := 36) hx hb dX3_holdsUnlikeRows_32 (by decide) ?_
        rw [hQ]
        exact W.zret (v := 1) (ty := .boolean) hx hb hr (by decide) (fun t ht hW => ⟨1, rfl, (Or.inr rfl), ht⟩) (fun q h => by cases h) dX3_holdsUnlikeRows_36

set_option maxHeartbeats 4000000 in
set_option maxRecDepth 100000 in
theorem c_X3_countHeld (l : Launch) (D : va_G) (E : Nat → ClassId) (G : Nat → Nat) (a : Nat → Nat) (C : Nat → va_E) (hT : TyX a E C) : Met l yX3_countHeld (oh_w yX3_countHeld cX3_countHeld 3 (some .int)) ({ frames := 1, cells := 0, slots := 0, locals := 21 }) (oh_Pp D E G [.ref (a 4)] (oh_W 35 a C)) (vp_Si (fun r => True)) 0 0 (fun _ => False) := by
  refine Met.ofW (cc := cX3_countHeld) (maxL := 3) (ret := (some .int)) (by decide) rfl ?_
  intro p e s m args below meth c s₁ B hml hv
  obtain ⟨rfl, hP, hK, hG⟩ := hv
  have hx := B.exec
  have hb := B.bytes
  have hr := B.returns
  have hts := atoms_spec (ws := (oh_w yX3_countHeld cX3_countHeld 3 (some .int))) B.pre
  have htg : ∀ w ∈ oh_t, w.before _ s = true := fun w h => hts w (List.mem_cons_of_mem _ h)
  have hown : s.vm.findClass RX3 = some m.cls := findClass_of_methodNamed B.named
  have hlocks := B.notSynchronized
  have hT0 := hT
  have hS : va_S (fun _ => False) s.heap s.heap [] := va_S.rf
  have hl := lv_entry ([.ref (a 4)]) (n := 3) (Nat.le_of_ble_eq_true rfl)
  rw [lg_entry_eq]
  generalize (lg_sl ([.ref (a 4)]) ++ List.replicate (3 - (lg_sl ([.ref (a 4)])).length) Slot.unset).toArray = ls at hl ⊢
  have hl : lv_has ls 3 [(0, .ref (a 4))] := hl
  refine oh_genQ (fun Q hQ => ?_)
  refine lv_iconst (v := 0) hx hb dX3_countHeld_0 (by decide) ?_
  refine lv_istore_n (lv' := [(1, .int 0), (0, .ref (a 4))]) hx hb dX3_countHeld_1 rfl hl (by decide) rfl (fun ls hl => ?_)
  refine lv_iconst (v := 0) hx hb dX3_countHeld_2 (by decide) ?_
  refine lv_istore_n (lv' := [(2, .int 0), (1, .int 0), (0, .ref (a 4))]) hx hb dX3_countHeld_3 rfl hl (by decide) rfl (fun ls hl => ?_)
  have L_4 : ∀ (d : Nat) (z4_2 : Int32) (z4_1 : Int32) (ls : Array Slot), (8 - z4_2.toInt).toNat = d → rg z4_2 0 8 → lv_has ls 3 [(2, .int z4_2), (1, .int z4_1), (0, .ref (a 4))] → W p l e ({ frames := 1, cells := 0, slots := 0, locals := 21 }) s m (([.ref (a 4)] : List Value).toArray) below meth c s.heap [] 0 0 Q (F0 m 4 ls []) := by
    intro d
    induction d using Nat.strongRecOn with
    | ind d ih_4 =>
    intro z4_2 z4_1 ls hd_4 hz4_2 hl
    refine lv_iload_n hx hb dX3_countHeld_4 rfl (lv_at hl 0 rfl) ?_
    refine lv_bipush (v := 8) hx hb dX3_countHeld_5 (by decide) ?_
    refine lv_icmp_ge (tgt := 27) hx hb dX3_countHeld_7 (by decide) (fun (c_1 : (8 : Int32) ≤ z4_2) => ?_) (fun (c_1 : ¬ ((8 : Int32) ≤ z4_2)) => ?_)
    · refine lv_iload_n hx hb dX3_countHeld_27 rfl (lv_at hl 1 rfl) ?_
      rw [hQ]
      exact W.iret (v := z4_1) hx hb hr (fun t ht hW => ⟨z4_1, rfl, trivial, ht⟩) (fun q h => by cases h) dX3_countHeld_28
    · refine lv_aload_n hx hb dX3_countHeld_10 rfl (lv_at hl 2 rfl) ?_
      refine lv_iload_n hx hb dX3_countHeld_11 rfl (lv_at hl 0 rfl) ?_
      refine tq_V (As := [.int z4_2]) (rest := []) (ws := (oh_W 35 a C)) ⟨hx, hb, hml, hown, htg⟩ (c_X3_holdsNothing l D E G a C hT z4_2 (rg_w (rn_ltu (u' := 7) (Int32.not_le.mp c_1) hz4_2 (rg_c (v := 8) (lo := 8) (hi := 8) (by decide)) (by decide)) (by decide))) (cwV 1 htg (oh_gV q_339 q_317 q_318 q_70 q_319) rfl rfl rfl pdVX3_holdsNothing ⟨Nat.le_of_ble_eq_true rfl, Nat.le_of_ble_eq_true rfl⟩) hK hP hG hS (va_recv hK hP (ci := 3) (q0 := 4) rfl (oh_wg (by decide) (sX_4 hT))) rfl hl.1 rfl (Nat.le_of_ble_eq_true rfl) dX3_countHeld_12 ⟨Nat.le_of_ble_eq_true rfl, Nat.le_of_ble_eq_true rfl⟩ (fun r_2 hq_3 => ?_)
      refine lv_if_ne (tgt := 21) hx hb dX3_countHeld_15 (by decide) (fun (c_4 : ¬ (r_2 = 0)) => ?_) (fun (c_4 : r_2 = 0) => ?_)
      · refine lv_iinc (v := z4_2 + 1) (lv' := [(2, .int (z4_2 + 1)), (1, .int z4_1), (0, .ref (a 4))]) hx hb dX3_countHeld_21 hl (k := 0) rfl (by rfl) (by decide) rfl (fun ls hl => ?_)
        refine lv_goto (tgt := 4) hx hb dX3_countHeld_24 (by decide) ?_
        exact ih_4 _ (hd_4 ▸ mu_up 8 (rn_ltu (u' := 7) (Int32.not_le.mp c_1) hz4_2 (rg_c (v := 8) (lo := 8) (hi := 8) (by decide)) (by decide)) (by decide)) (z4_2 + 1) z4_1 ls rfl (rg_w (rg_add (lo := 1) (hi := 8) (rn_ltu (u' := 7) (Int32.not_le.mp c_1) hz4_2 (rg_c (v := 8) (lo := 8) (hi := 8) (by decide)) (by decide)) (rg_c (v := 1) (lo := 1) (hi := 1) (by decide)) (by decide)) (by decide)) (lv_sub hl [0, 1, 2] rfl)
      · refine lv_iinc (v := z4_1 + 1) (lv' := [(1, .int (z4_1 + 1)), (2, .int z4_2), (0, .ref (a 4))]) hx hb dX3_countHeld_18 hl (k := 1) rfl (by rfl) (by decide) rfl (fun ls hl => ?_)
        refine lv_iinc (v := z4_2 + 1) (lv' := [(2, .int (z4_2 + 1)), (1, .int (z4_1 + 1)), (0, .ref (a 4))]) hx hb dX3_countHeld_21 hl (k := 1) rfl (by rfl) (by decide) rfl (fun ls hl => ?_)
        refine lv_goto (tgt := 4) hx hb dX3_countHeld_24 (by decide) ?_
        exact ih_4 _ (hd_4 ▸ mu_up 8 (rn_ltu (u' := 7) (Int32.not_le.mp c_1) hz4_2 (rg_c (v := 8) (lo := 8) (hi := 8) (by decide)) (by decide)) (by decide)) (z4_2 + 1) (z4_1 + 1) ls rfl (rg_w (rg_add (lo := 1) (hi := 8) (rn_ltu (u' := 7) (Int32.not_le.mp c_1) hz4_2 (rg_c (v := 8) (lo := 8) (hi := 8) (by decide)) (by decide)) (rg_c (v := 1) (lo := 1) (hi := 1) (by decide)) (by decide)) (by decide)) (lv_sub hl [0, 1, 2] rfl)
  exact L_4 _ 0 0 ls rfl (rg_w (rg_c (v := 0) (lo := 0) (hi := 0) (by decide)) (by decide)) (lv_sub hl [0, 1, 2] rfl)

set_option maxHeartbeats 4000000 in
set_option maxRecDepth 100000 in
theorem c_X3_putRow (l : Launch) (D : va_G) (E : Nat → ClassId) (G : Nat → Nat) (sz : Nat) (a : Nat → Nat) (C : Nat → va_E) (hT : TyX a E C) (x1 : Int32) (x2 : Int32) (x3 : Int32) (hx1 : rg x1 0 7) (hx3 : rg x3 0 40) : Met l yX3_putRow (oh_w yX3_putRow cX3_putRow 5 none) ({ frames := 0, cells := 0, slots := 0, locals := 0 }) (oh_Pm D E G [.ref (a 4), .int x1, .int x2, .int x3] (oh_W 35 a C) sz) (va_Qv (fun (u : Nat → va_E) => TyX a E u ∧ fr [(29, 32)] [] C u ∧ True) (oh_B D (va_A (oh_W 35 a C) sz) (fun u => oh_W 35 a u)) (va_A (oh_W 35 a C) sz)) 0 0 (va_A (oh_W 35 a C) sz) := by
  refine Met.ofW (cc := cX3_putRow) (maxL := 5) (ret := none) (by decide) rfl ?_
  intro p e s m args below meth c s₁ B hml hv
  obtain ⟨rfl, hsz, hP, hK, hD0, hG⟩ := hv
  have hx := B.exec
  have hb := B.bytes
  have hr := B.returns
  have hts := atoms_spec (ws := (oh_w yX3_putRow cX3_putRow 5 none)) B.pre
  have htg : ∀ w ∈ oh_t, w.before _ s = true := fun w h => hts w (List.mem_cons_of_mem _ h)
  have hown : s.vm.findClass RX3 = some m.cls := findClass_of_methodNamed B.named
  have hlocks := B.notSynchronized
  have hT0 := hT
  subst hsz
  have hD := hD0.self (sz := s.heap.size)
  generalize hAe : va_A (oh_W 35 a C) s.heap.size = A at hD hG ⊢
  have hA : ∀ q : Nat, s.heap.size ≤ q → A q := fun q h => by rw [← hAe]; exact Or.inr h
  have hS : va_S A s.heap s.heap [] := va_S.rf
  have hF : fr [(29, 32)] [] C C := fr_rf
  have hl := lv_entry ([.ref (a 4), .int x1, .int x2, .int x3]) (n := 5) (Nat.le_of_ble_eq_true rfl)
  rw [lg_entry_eq]
  generalize (lg_sl ([.ref (a 4), .int x1, .int x2, .int x3]) ++ List.replicate (5 - (lg_sl ([.ref (a 4), .int x1, .int x2, .int x3])).length) Slot.unset).toArray = ls at hl ⊢
  have hl : lv_has ls 5 [(0, .ref (a 4)), (1, .int x1), (2, .int x2), (3, .int x3)] := hl
  refine oh_genQ (fun Q hQ => ?_)
  refine lv_aload_n hx hb dX3_putRow_0 rfl (lv_at hl 0 rfl) ?_
  refine va_get (D := D) (ci := 3) (v := .ref (a 29)) (C := RX3) (T := TX3) (N := 3) hx hb htg ig_3 hown hK hP 4 (oh_wg (by decide) (sX_4 hT)) rfl 0 (by decide) (htg _ q_198) (fun _ h9 => h9) rfl dX3_putRow_1 ?_
  refine lv_iload_n hx hb dX3_putRow_4 rfl (lv_at hl 1 rfl) ?_
  refine lv_iload_n hx hb dX3_putRow_5 rfl (lv_at hl 2 rfl) ?_
  have n_1 : vp_in x1 8 := (rg_in hx1 (by decide))
  refine th_iast (T := TyX a E) (Rl := fr [(29, 32)] [] C) hx hb hK hP hD hS 29 (by decide) (sX_29 hT) n_1 (hT.up 29 (tA_upd (tX_29 hT) tA_any)) (fr_st hF (by decide) (by decide)) dX3_putRow_6 (fun C_2 H locs e_3 hT hF hP hD hS => ?_)
  have t_4 := hT
  refine lv_aload_n hx hb dX3_putRow_7 rfl (lv_at hl 0 rfl) ?_
  refine va_get (D := D) (ci := 3) (v := .ref (a 30)) (C := RX3) (T := TX3) (N := 3) hx hb htg ig_3 hown hK hP 4 (oh_wg (by decide) (sX_4 hT)) rfl 1 (by decide) (htg _ q_200) (fun _ h9 => h9) rfl dX3_putRow_8 ?_
  refine lv_iload_n hx hb dX3_putRow_11 rfl (lv_at hl 1 rfl) ?_
  refine lv_iload_n hx hb dX3_putRow_12 rfl (lv_at hl 3 rfl) ?_
  have n_5 : vp_in x1 8 := (rg_in hx1 (by decide))
  refine th_iast (T := TyX a E) (Rl := fr [(29, 32)] [] C) hx hb hK hP hD hS 30 (by decide) (sX_30 hT) n_5 (hT.up 30 (tA_upd (tX_30 hT) (tA_stc (Nat.mod_one _) hx3 (by decide)))) (fr_st hF (by decide) (by decide)) dX3_putRow_13 (fun C_6 H locs e_7 hT hF hP hD hS => ?_)
  have t_8 := hT
  refine lv_iconst (v := 0) hx hb dX3_putRow_14 (by decide) ?_
  refine lv_istore (lv' := [(4, .int 0), (0, .ref (a 4)), (1, .int x1), (2, .int x2), (3, .int x3)]) hx hb dX3_putRow_15 hl (by decide) rfl (fun ls hl => ?_)
  have L_17 : ∀ (d : Nat) (K17 : Nat → va_E) (z17_4 : Int32) (H : Heap) (locs : List Loc) (ls : Array Slot), (40 - z17_4.toInt).toNat = d → rg z17_4 0 40 → TyX a E K17 → fr [(29, 32)] [] C K17 → fr [(31, 32)] [] C_6 K17 → va_P D vwCl (oh_W 35 a K17) H → va_D A (oh_W 35 a K17) → va_S A s.heap H locs → lv_has ls 5 [(4, .int z17_4), (0, .ref (a 4)), (1, .int x1), (2, .int x2), (3, .int x3)] → W p l e ({ frames := 0, cells := 0, slots := 0, locals := 0 }) s m (([.ref (a 4), .int x1, .int x2, .int x3] : List Value).toArray) below meth c H locs 0 0 Q (F0 m 17 ls []) := by
    intro d
    induction d using Nat.strongRecOn with
    | ind d ih_17 =>
    intro K17 z17_4 H locs ls hd_17 hz17_4 hT hF hLF_17 hP hD hS hl
    have t_9 := hT
    refine lv_iload hx hb dX3_putRow_17 (lv_at hl 0 rfl) ?_
    refine lv_iload_n hx hb dX3_putRow_19 rfl (lv_at hl 4 rfl) ?_
    refine lv_icmp_ge (tgt := 42) hx hb dX3_putRow_20 (by decide) (fun (c_10 : x3 ≤ z17_4) => ?_) (fun (c_10 : ¬ (x3 ≤ z17_4)) => ?_)
    · rw [hQ]
      exact W.vret hx hb hr (fun t ht hW => ⟨⟨K17, rfl, ⟨hT, hF, trivial⟩, ⟨by rw [ht]; exact hP, hD⟩⟩, hS.F ht⟩) hS.2.2 dX3_putRow_42
    · refine lv_aload_n hx hb dX3_putRow_23 rfl (lv_at hl 1 rfl) ?_
      refine va_get (D := D) (ci := 3) (v := .ref (a 31)) (C := RX3) (T := TX3) (N := 3) hx hb htg ig_3 hown hK hP 4 (oh_wg (by decide) (sX_4 hT)) rfl 2 (by decide) (htg _ q_202) (fun _ h9 => h9) rfl dX3_putRow_24 ?_
      refine lv_iload_n hx hb dX3_putRow_27 rfl (lv_at hl 2 rfl) ?_
      refine lv_bipush (v := 40) hx hb dX3_putRow_28 (by decide) ?_
      refine lv_imul hx hb dX3_putRow_30 ?_
      refine lv_iload hx hb dX3_putRow_31 (lv_at hl 0 rfl) ?_
      refine lv_iadd hx hb dX3_putRow_33 ?_
      refine lv_lconst (v := 0) hx hb dX3_putRow_34 (by decide) ?_
      have n_11 : vp_in ((x1 * 40) + z17_4) 320 := (rg_in (rg_add (lo := 0) (hi := 319) (rg_mul (lo := 0) (hi := 280) hx1 (rg_c (v := 40) (lo := 40) (hi := 40) (by decide)) (by decide)) (rn_ltu (u' := 39) (Int32.not_le.mp c_10) hz17_4 hx3 (by decide)) (by decide)) (by decide))
      refine th_last (T := TyX a E) (Rl := fr [(29, 32)] [] C) hx hb hK hP hD hS 31 (by decide) (sX_31 hT) n_11 (hT.up 31 rfl) (fr_st hF (by decide) (by decide)) dX3_putRow_35 (fun C_12 H locs e_13 hT hF hP hD hS => ?_)
      have t_14 := hT
      refine lv_iinc (v := z17_4 + 1) (lv' := [(4, .int (z17_4 + 1)), (0, .ref (a 4)), (1, .int x1), (2, .int x2), (3, .int x3)]) hx hb dX3_putRow_36 hl (k := 0) rfl (by rfl) (by decide) rfl (fun ls hl => ?_)
      refine lv_goto (tgt := 17) hx hb dX3_putRow_39 (by decide) ?_
      exact ih_17 _ (hd_17 ▸ mu_up 40 (rn_ltu (u' := 39) (Int32.not_le.mp c_10) hz17_4 hx3 (by decide)) (by decide)) C_12 (z17_4 + 1) _ _ ls rfl (rg_w (rg_add (lo := 1) (hi := 40) (rn_ltu (u' := 39) (Int32.not_le.mp c_10) hz17_4 hx3 (by decide)) (rg_c (v := 1) (lo := 1) (hi := 1) (by decide)) (by decide)) (by decide)) hT hF (fr_ste hLF_17 e_13 (by decide) (by decide)) hP hD hS (lv_sub hl [0, 1, 2, 3, 4] rfl)
  exact L_17 _ C_6 0 _ _ ls rfl (rg_w (rg_c (v := 0) (lo := 0) (hi := 0) (by decide)) (by decide)) hT hF fr_rf hP hD hS (lv_sub hl [0, 1, 2, 3, 4] rfl)

set_option maxHeartbeats 4000000 in
set_option maxRecDepth 100000 in
theorem c_X3_putBridge (l : Launch) (D : va_G) (E : Nat → ClassId) (G : Nat → Nat) (sz : Nat) (a : Nat → Nat) (C : Nat → va_E) (hT : TyX a E C) (x1 : Int32) (x2 : Int32) (hx1 : rg x1 0 7) : Met l yX3_putBridge (oh_w yX3_putBridge cX3_putBridge 3 none) ({ frames := 0, cells := 0, slots := 0, locals := 0 }) (oh_Pm D E G [.ref (a 4), .int x1, .int x2] (oh_W 35 a C) sz) (va_Qv (fun (u : Nat → va_E) => TyX a E u ∧ fr [(29, 31)] [] C u ∧ True) (oh_B D (va_A (oh_W 35 a C) sz) (fun u => oh_W 35 a u)) (va_A (oh_W 35 a C) sz)) 0 0 (va_A (oh_W 35 a C) sz) := by
  refine Met.ofW (cc := cX3_putBridge) (maxL := 3) (ret := none) (by decide) rfl ?_
  intro p e s m args below meth c s₁ B hml hv
  obtain ⟨rfl, hsz, hP, hK, hD0, hG⟩ := hv
  have hx := B.exec
  have hb := B.bytes
  have hr := B.returns
  have hts := atoms_spec (ws := (oh_w yX3_putBridge cX3_putBridge 3 none)) B.pre
  have htg : ∀ w ∈ oh_t, w.before _ s = true := fun w h => hts w (List.mem_cons_of_mem _ h)
  have hown : s.vm.findClass RX3 = some m.cls := findClass_of_methodNamed B.named
  have hlocks := B.notSynchronized
  have hT0 := hT
  subst hsz
  have hD := hD0.self (sz := s.heap.size)
  generalize hAe : va_A (oh_W 35 a C) s.heap.size = A at hD hG ⊢
  have hA : ∀ q : Nat, s.heap.size ≤ q → A q := fun q h => by rw [← hAe]; exact Or.inr h
  have hS : va_S A s.heap s.heap [] := va_S.rf
  have hF : fr [(29, 31)] [] C C := fr_rf
  have hl := lv_entry ([.ref (a 4), .int x1, .int x2]) (n := 3) (Nat.le_of_ble_eq_true rfl)
  rw [lg_entry_eq]
  generalize (lg_sl ([.ref (a 4), .int x1, .int x2]) ++ List.replicate (3 - (lg_sl ([.ref (a 4), .int x1, .int x2])).length) Slot.unset).toArray = ls at hl ⊢
  have hl : lv_has ls 3 [(0, .ref (a 4)), (1, .int x1), (2, .int x2)] := hl
  refine oh_genQ (fun Q hQ => ?_)
  refine lv_aload_n hx hb dX3_putBridge_0 rfl (lv_at hl 0 rfl) ?_
  refine va_get (D := D) (ci := 3) (v := .ref (a 29)) (C := RX3) (T := TX3) (N := 3) hx hb htg ig_3 hown hK hP 4 (oh_wg (by decide) (sX_4 hT)) rfl 0 (by decide) (htg _ q_198) (fun _ h9 => h9) rfl dX3_putBridge_1 ?_
  refine lv_iload_n hx hb dX3_putBridge_4 rfl (lv_at hl 1 rfl) ?_
  refine lv_iload_n hx hb dX3_putBridge_5 rfl (lv_at hl 2 rfl) ?_
  refine lv_iconst (v := (-1)) hx hb dX3_putBridge_6 (by decide) ?_
  refine lv_icmp_ne (tgt := 14) hx hb dX3_putBridge_7 (by decide) (fun (c_1 : ¬ (x2 = (-1))) => ?_) (fun (c_1 : x2 = (-1)) => ?_)
  · refine lv_bipush (v := 10) hx hb dX3_putBridge_14 (by decide) ?_
    refine lv_iload_n hx hb dX3_putBridge_16 rfl (lv_at hl 2 rfl) ?_
    refine lv_iadd hx hb dX3_putBridge_17 ?_
    have n_2 : vp_in x1 8 := (rg_in hx1 (by decide))
    refine th_iast (T := TyX a E) (Rl := fr [(29, 31)] [] C) hx hb hK hP hD hS 29 (by decide) (sX_29 hT) n_2 (hT.up 29 (tA_upd (tX_29 hT) tA_any)) (fr_st hF (by decide) (by decide)) dX3_putBridge_18 (fun C_3 H locs e_4 hT hF hP hD hS => ?_)
    have t_5 := hT
    refine lv_aload_n hx hb dX3_putBridge_19 rfl (lv_at hl 0 rfl) ?_
    refine va_get (D := D) (ci := 3) (v := .ref (a 30)) (C := RX3) (T := TX3) (N := 3) hx hb htg ig_3 hown hK hP 4 (oh_wg (by decide) (sX_4 hT)) rfl 1 (by decide) (htg _ q_200) (fun _ h9 => h9) rfl dX3_putBridge_20 ?_
    refine lv_iload_n hx hb dX3_putBridge_23 rfl (lv_at hl 1 rfl) ?_
    refine lv_iconst (v := 0) hx hb dX3_putBridge_24 (by decide) ?_
    have n_6 : vp_in x1 8 := (rg_in hx1 (by decide))
    refine th_iast (T := TyX a E) (Rl := fr [(29, 31)] [] C) hx hb hK hP hD hS 30 (by decide) (sX_30 hT) n_6 (hT.up 30 (tA_upd (tX_30 hT) (tA_stc (Nat.mod_one _) (rg_c (v := 0) (lo := 0) (hi := 0) (by decide)) (by decide)))) (fr_st hF (by decide) (by decide)) dX3_putBridge_25 (fun C_7 H locs e_8 hT hF hP hD hS => ?_)
    have t_9 := hT
    rw [hQ]
    exact W.vret hx hb hr (fun t ht hW => ⟨⟨C_7, rfl, ⟨hT, hF, trivial⟩, ⟨by rw [ht]; exact hP, hD⟩⟩, hS.F ht⟩) hS.2.2 dX3_putBridge_26
  · refine lv_iconst (v := (-1)) hx hb dX3_putBridge_10 (by decide) ?_
    refine lv_goto (tgt := 18) hx hb dX3_putBridge_11 (by decide) ?_
    have n_10 : vp_in x1 8 := (rg_in hx1 (by decide))
    refine th_iast (T := TyX a E) (Rl := fr [(29, 31)] [] C) hx hb hK hP hD hS 29 (by decide) (sX_29 hT) n_10 (hT.up 29 (tA_upd (tX_29 hT) tA_any)) (fr_st hF (by decide) (by decide)) dX3_putBridge_18 (fun C_11 H locs e_12 hT hF hP hD hS => ?_)
    have t_13 := hT
    refine lv_aload_n hx hb dX3_putBridge_19 rfl (lv_at hl 0 rfl) ?_
    refine va_get (D := D) (ci := 3) (v := .ref (a 30)) (C := RX3) (T := TX3) (N := 3) hx hb htg ig_3 hown hK hP 4 (oh_wg (by decide) (sX_4 hT)) rfl 1 (by decide) (htg _ q_200) (fun _ h9 => h9) rfl dX3_putBridge_20 ?_
    refine lv_iload_n hx hb dX3_putBridge_23 rfl (lv_at hl 1 rfl) ?_
    refine lv_iconst (v := 0) hx hb dX3_putBridge_24 (by decide) ?_
    have n_14 : vp_in x1 8 := (rg_in hx1 (by decide))
    refine th_iast (T := TyX a E) (Rl := fr [(29, 31)] [] C) hx hb hK hP hD hS 30 (by decide) (sX_30 hT) n_14 (hT.up 30 (tA_upd (tX_30 hT) (tA_stc (Nat.mod_one _) (rg_c (v := 0) (lo := 0) (hi := 0) (by decide)) (by decide)))) (fr_st hF (by decide) (by decide)) dX3_putBridge_25 (fun C_15 H locs e_16 hT hF hP hD hS => ?_)
    have t_17 := hT
    rw [hQ]
    exact W.vret hx hb hr (fun t ht hW => ⟨⟨C_15, rfl, ⟨hT, hF, trivial⟩, ⟨by rw [ht]; exact hP, hD⟩⟩, hS.F ht⟩) hS.2.2 dX3_putBridge_26

set_option maxHeartbeats 4000000 in
set_option maxRecDepth 100000 in
theorem c_X3_dropBridgesFrom (l : Launch) (D : va_G) (E : Nat → ClassId) (G : Nat → Nat) (sz : Nat) (a : Nat → Nat) (C : Nat → va_E) (hT : TyX a E C) (x1 : Int32) : Met l yX3_dropBridgesFrom (oh_w yX3_dropBridgesFrom cX3_dropBridgesFrom 3 none) ({ frames := 1, cells := 0, slots := 0, locals := 22 }) (oh_Pm D E G [.ref (a 4), .int x1] (oh_W 35 a C) sz) (va_Qv (fun (u : Nat → va_E) => TyX a E u ∧ fr [(29, 31)] [] C u ∧ True) (oh_B D (va_A (oh_W 35 a C) sz) (fun u => oh_W 35 a u)) (va_A (oh_W 35 a C) sz)) 0 0 (va_A (oh_W 35 a C) sz) := by
  refine Met.ofW (cc := cX3_dropBridgesFrom) (maxL := 3) (ret := none) (by decide) rfl ?_
  intro p e s m args below meth c s₁ B hml hv
  obtain ⟨rfl, hsz, hP, hK, hD0, hG⟩ := hv
  have hx := B.exec
  have hb := B.bytes
  have hr := B.returns
  have hts := atoms_spec (ws := (oh_w yX3_dropBridgesFrom cX3_dropBridgesFrom 3 none)) B.pre
  have htg : ∀ w ∈ oh_t, w.before _ s = true := fun w h => hts w (List.mem_cons_of_mem _ h)
  have hown : s.vm.findClass RX3 = some m.cls := findClass_of_methodNamed B.named
  have hlocks := B.notSynchronized
  have hT0 := hT
  subst hsz
  have hD := hD0.self (sz := s.heap.size)
  generalize hAe : va_A (oh_W 35 a C) s.heap.size = A at hD hG ⊢
  have hA : ∀ q : Nat, s.heap.size ≤ q → A q := fun q h => by rw [← hAe]; exact Or.inr h
  have hS : va_S A s.heap s.heap [] := va_S.rf
  have hF : fr [(29, 31)] [] C C := fr_rf
  have hl := lv_entry ([.ref (a 4), .int x1]) (n := 3) (Nat.le_of_ble_eq_true rfl)
  rw [lg_entry_eq]
  generalize (lg_sl ([.ref (a 4), .int x1]) ++ List.replicate (3 - (lg_sl ([.ref (a 4), .int x1])).length) Slot.unset).toArray = ls at hl ⊢
  have hl : lv_has ls 3 [(0, .ref (a 4)), (1, .int x1)] := hl
  refine oh_genQ (fun Q hQ => ?_)
  refine lv_iconst (v := 0) hx hb dX3_dropBridgesFrom_0 (by decide) ?_
  refine lv_istore_n (lv' := [(2, .int 0), (0, .ref (a 4)), (1, .int x1)]) hx hb dX3_dropBridgesFrom_1 rfl hl (by decide) rfl (fun ls hl => ?_)
  have L_2 : ∀ (d : Nat) (K2 : Nat → va_E) (z2_2 : Int32) (H : Heap) (locs : List Loc) (ls : Array Slot), (8 - z2_2.toInt).toNat = d → rg z2_2 0 8 → TyX a E K2 → fr [(29, 31)] [] C K2 → fr [(29, 31)] [] C K2 → va_P D vwCl (oh_W 35 a K2) H → va_D A (oh_W 35 a K2) → va_S A s.heap H locs → lv_has ls 3 [(2, .int z2_2), (0, .ref (a 4)), (1, .int x1)] → W p l e ({ frames := 1, cells := 0, slots := 0, locals := 22 }) s m (([.ref (a 4), .int x1] : List Value).toArray) below meth c H locs 0 0 Q (F0 m 2 ls []) := by
    intro d
    induction d using Nat.strongRecOn with
    | ind d ih_2 =>
    intro K2 z2_2 H locs ls hd_2 hz2_2 hT hF hLF_2 hP hD hS hl
    have t_1 := hT
    refine lv_iload_n hx hb dX3_dropBridgesFrom_2 rfl (lv_at hl 0 rfl) ?_
    refine lv_bipush (v := 8) hx hb dX3_dropBridgesFrom_3 (by decide) ?_
    refine lv_icmp_ge (tgt := 33) hx hb dX3_dropBridgesFrom_5 (by decide) (fun (c_2 : (8 : Int32) ≤ z2_2) => ?_) (fun (c_2 : ¬ ((8 : Int32) ≤ z2_2)) => ?_)
    · rw [hQ]
      exact W.vret hx hb hr (fun t ht hW => ⟨⟨K2, rfl, ⟨hT, hF, trivial⟩, ⟨by rw [ht]; exact hP, hD⟩⟩, hS.F ht⟩) hS.2.2 dX3_dropBridgesFrom_33
    · refine lv_aload_n hx hb dX3_dropBridgesFrom_8 rfl (lv_at hl 1 rfl) ?_
      refine va_get (D := D) (ci := 3) (v := .ref (a 29)) (C := RX3) (T := TX3) (N := 3) hx hb htg ig_3 hown hK hP 4 (oh_wg (by decide) (sX_4 hT)) rfl 0 (by decide) (htg _ q_198) (fun _ h9 => h9) rfl dX3_dropBridgesFrom_9 ?_
      refine lv_iload_n hx hb dX3_dropBridgesFrom_12 rfl (lv_at hl 0 rfl) ?_
      have n_3 : vp_in z2_2 8 := (rg_in (rn_ltu (u' := 7) (Int32.not_le.mp c_2) hz2_2 (rg_c (v := 8) (lo := 8) (hi := 8) (by decide)) (by decide)) (by decide))
      refine th_iald hx hb hK hP 29 (by decide) (sX_29 hT) n_3 dX3_dropBridgesFrom_13 ?_
      refine lv_bipush (v := 10) hx hb dX3_dropBridgesFrom_14 (by decide) ?_
      refine lv_iload_n hx hb dX3_dropBridgesFrom_16 rfl (lv_at hl 2 rfl) ?_
      refine lv_iadd hx hb dX3_dropBridgesFrom_17 ?_
      refine lv_icmp_lt (tgt := 27) hx hb dX3_dropBridgesFrom_18 (by decide) (fun (c_4 : (ga (K2 29) (z2_2).toNatClampNeg) < (10 + x1)) => ?_) (fun (c_4 : ¬ ((ga (K2 29) (z2_2).toNatClampNeg) < (10 + x1))) => ?_)
      · refine lv_iinc (v := z2_2 + 1) (lv' := [(2, .int (z2_2 + 1)), (0, .ref (a 4)), (1, .int x1)]) hx hb dX3_dropBridgesFrom_27 hl (k := 0) rfl (by rfl) (by decide) rfl (fun ls hl => ?_)
        refine lv_goto (tgt := 2) hx hb dX3_dropBridgesFrom_30 (by decide) ?_
        exact ih_2 _ (hd_2 ▸ mu_up 8 (rn_ltu (u' := 7) (Int32.not_le.mp c_2) hz2_2 (rg_c (v := 8) (lo := 8) (hi := 8) (by decide)) (by decide)) (by decide)) K2 (z2_2 + 1) _ _ ls rfl (rg_w (rg_add (lo := 1) (hi := 8) (rn_ltu (u' := 7) (Int32.not_le.mp c_2) hz2_2 (rg_c (v := 8) (lo := 8) (hi := 8) (by decide)) (by decide)) (rg_c (v := 1) (lo := 1) (hi := 1) (by decide)) (by decide)) (by decide)) hT hF hLF_2 hP hD hS (lv_sub hl [0, 1, 2] rfl)
      · refine lv_aload_n hx hb dX3_dropBridgesFrom_21 rfl (lv_at hl 1 rfl) ?_
        refine lv_iload_n hx hb dX3_dropBridgesFrom_22 rfl (lv_at hl 0 rfl) ?_
        refine lv_iconst (v := (-1)) hx hb dX3_dropBridgesFrom_23 (by decide) ?_
        refine tm_Vv (As := [.int z2_2, .int (-1)]) (rest := []) ⟨hx, hb, hml, hown, htg⟩ (c_X3_putBridge l D E G _ a K2 hT z2_2 ((-1) : Int32) (rg_w (rn_ltu (u' := 7) (Int32.not_le.mp c_2) hz2_2 (rg_c (v := 8) (lo := 8) (hi := 8) (by decide)) (by decide)) (by decide))) (cwV 2 htg (oh_gV q_950 q_371 q_372 q_70 q_373) rfl rfl rfl pdVX3_putBridge ⟨Nat.le_of_ble_eq_true rfl, Nat.le_of_ble_eq_true rfl⟩) hK hP hD hG hS hA (va_recv hK hP (ci := 3) (q0 := 4) rfl (oh_wg (by decide) (sX_4 hT))) rfl hl.1 rfl (Nat.le_of_ble_eq_true rfl) dX3_dropBridgesFrom_24 ⟨Nat.le_of_ble_eq_true rfl, Nat.le_of_ble_eq_true rfl⟩ (fun C_6 H locs hq_7 hP hD hS => ?_)
        obtain ⟨hT, f_8, hq_7⟩ := hq_7
        have hF := fr_tr hF f_8 (by decide) (by decide)
        refine W.widen (k := 0) (n := 0) (Nat.le_refl _) (Nat.le_refl _) ?_
        have t_9 := hT
        refine lv_iinc (v := z2_2 + 1) (lv' := [(2, .int (z2_2 + 1)), (0, .ref (a 4)), (1, .int x1)]) hx hb dX3_dropBridgesFrom_27 hl (k := 0) rfl (by rfl) (by decide) rfl (fun ls hl => ?_)
        refine lv_goto (tgt := 2) hx hb dX3_dropBridgesFrom_30 (by decide) ?_
        exact ih_2 _ (hd_2 ▸ mu_up 8 (rn_ltu (u' := 7) (Int32.not_le.mp c_2) hz2_2 (rg_c (v := 8) (lo := 8) (hi := 8) (by decide)) (by decide)) (by decide)) C_6 (z2_2 + 1) _ _ ls rfl (rg_w (rg_add (lo := 1) (hi := 8) (rn_ltu (u' := 7) (Int32.not_le.mp c_2) hz2_2 (rg_c (v := 8) (lo := 8) (hi := 8) (by decide)) (by decide)) (rg_c (v := 1) (lo := 1) (hi := 1) (by decide)) (by decide)) (by decide)) hT hF (fr_tr hLF_2 f_8 (by decide) (by decide)) hP hD hS (lv_sub hl [0, 1, 2] rfl)
  exact L_2 _ C 0 _ _ ls rfl (rg_w (rg_c (v := 0) (lo := 0) (hi := 0) (by decide)) (by decide)) hT hF fr_rf hP hD hS (lv_sub hl [0, 1, 2] rfl)

set_option maxHeartbeats 4000000 in
set_option maxRecDepth 100000 in
theorem c_X3_elementAt (l : Launch) (D : va_G) (E : Nat → ClassId) (G : Nat → Nat) (a : Nat → Nat) (C : Nat → va_E) (hT : TyX a E C) (x1 : Int32) (x2 : Int32) (hx1 : rg x1 0 7) : Met l yX3_elementAt (oh_w yX3_elementAt cX3_elementAt 3 (some .long)) ({ frames := 1, cells := 0, slots := 0, locals := 22 }) (oh_Pp D E G [.ref (a 4), .int x1, .int x2] (oh_W 35 a C)) (vp_Sl (fun r => True)) 0 0 (fun _ => False) := by
  refine Met.ofW (cc := cX3_elementAt) (maxL := 3) (ret := (some .long)) (by decide) rfl ?_
  intro p e s m args below meth c s₁ B hml hv
  obtain ⟨rfl, hP, hK, hG⟩ := hv
  have hx := B.exec
  have hb := B.bytes
  have hr := B.returns
  have hts := atoms_spec (ws := (oh_w yX3_elementAt cX3_elementAt 3 (some .long))) B.pre
  have htg : ∀ w ∈ oh_t, w.before _ s = true := fun w h => hts w (List.mem_cons_of_mem _ h)
  have hown : s.vm.findClass RX3 = some m.cls := findClass_of_methodNamed B.named
  have hlocks := B.notSynchronized
  have hT0 := hT
  have hS : va_S (fun _ => False) s.heap s.heap [] := va_S.rf
  have hl := lv_entry ([.ref (a 4), .int x1, .int x2]) (n := 3) (Nat.le_of_ble_eq_true rfl)
  rw [lg_entry_eq]
  generalize (lg_sl ([.ref (a 4), .int x1, .int x2]) ++ List.replicate (3 - (lg_sl ([.ref (a 4), .int x1, .int x2])).length) Slot.unset).toArray = ls at hl ⊢
  have hl : lv_has ls 3 [(0, .ref (a 4)), (1, .int x1), (2, .int x2)] := hl
  refine oh_genQ (fun Q hQ => ?_)
  refine lv_iload_n hx hb dX3_elementAt_0 rfl (lv_at hl 2 rfl) ?_
  refine lv_iconst (v := 0) hx hb dX3_elementAt_1 (by decide) ?_
  refine lv_aload_n hx hb dX3_elementAt_2 rfl (lv_at hl 0 rfl) ?_
  refine va_get (D := D) (ci := 3) (v := .ref (a 30)) (C := RX3) (T := TX3) (N := 3) hx hb htg ig_3 hown hK hP 4 (oh_wg (by decide) (sX_4 hT)) rfl 1 (by decide) (htg _ q_200) (fun _ h9 => h9) rfl dX3_elementAt_3 ?_
  refine lv_iload_n hx hb dX3_elementAt_6 rfl (lv_at hl 1 rfl) ?_
  have n_1 : vp_in x1 8 := (rg_in hx1 (by decide))
  refine th_iald hx hb hK hP 30 (by decide) (sX_30 hT) n_1 dX3_elementAt_7 ?_
  refine lv_iconst (v := 1) hx hb dX3_elementAt_8 (by decide) ?_
  refine lv_isub hx hb dX3_elementAt_9 ?_
  refine tq_SN (As := [.int x2, .int 0, .int ((ga (C 30) (x1).toNatClampNeg) - 1)]) (rest := []) (ws := []) ⟨hx, hb, hml, hown, htg⟩ (c_X6_within l D E G x2 (0 : Int32) ((ga (C 30) (x1).toNatClampNeg) - 1)) ⟨va_cnB (y := yX6_within) 3 htg (oh_gW q_295) rfl rfl rfl (hG.1 ("OneHeavyLoad$Shelves", 36, ⟨"OneHeavyLoad", "within", "(III)Z"⟩, "OneHeavyLoad") (List.mem_of_getElem? (i := 1) rfl)) (htg _ q_66) pdX6_within ⟨Nat.le_of_ble_eq_true rfl, Nat.le_of_ble_eq_true rfl⟩, htg _ q_294, trivial⟩ hK va_nil hG hS rfl hl.1 rfl (Nat.le_of_ble_eq_true rfl) dX3_elementAt_10 ⟨Nat.le_of_ble_eq_true rfl, Nat.le_of_ble_eq_true rfl⟩ (fun r_2 hq_3 => ?_)
  refine lv_if_eq (tgt := 30) hx hb dX3_elementAt_13 (by decide) (fun (c_4 : r_2 = 0) => ?_) (fun (c_4 : ¬ (r_2 = 0)) => ?_)
  · have u_5 := hq_3.2.2 c_4
    refine lv_lconst (v := 0) hx hb dX3_elementAt_30 (by decide) ?_
    rw [hQ]
    exact W.lret (v := 0) hx hb hr (fun t ht hW => ⟨0, rfl, trivial, ht⟩) (fun q h => by cases h) dX3_elementAt_31
  · have u_6 := hq_3.2.1 c_4
    refine lv_aload_n hx hb dX3_elementAt_16 rfl (lv_at hl 0 rfl) ?_
    refine va_get (D := D) (ci := 3) (v := .ref (a 31)) (C := RX3) (T := TX3) (N := 3) hx hb htg ig_3 hown hK hP 4 (oh_wg (by decide) (sX_4 hT)) rfl 2 (by decide) (htg _ q_202) (fun _ h9 => h9) rfl dX3_elementAt_17 ?_
    refine lv_iload_n hx hb dX3_elementAt_20 rfl (lv_at hl 1 rfl) ?_
    refine lv_bipush (v := 40) hx hb dX3_elementAt_21 (by decide) ?_
    refine lv_imul hx hb dX3_elementAt_23 ?_
    refine lv_iload_n hx hb dX3_elementAt_24 rfl (lv_at hl 2 rfl) ?_
    refine lv_iadd hx hb dX3_elementAt_25 ?_
    have n_7 : vp_in ((x1 * 40) + x2) 320 := (rg_in (rg_add (lo := 0) (hi := 319) (rg_mul (lo := 0) (hi := 280) hx1 (rg_c (v := 40) (lo := 40) (hi := 40) (by decide)) (by decide)) (rn_leu u_6.2 (rn_lel u_6.1 (rg_c (v := 0) (lo := 0) (hi := 0) (by decide)) (rg_any _)) (rg_sub (lo := (-1)) (hi := 39) (tA_rdc (lo := 0) (hi := 40) (tX_30 hT0) n_1 (Nat.mod_one _) (by decide)) (rg_c (v := 1) (lo := 1) (hi := 1) (by decide)) (by decide))) (by decide)) (by decide))
    refine th_lald hx hb hK hP 31 (by decide) (sX_31 hT) n_7 dX3_elementAt_26 ?_
    refine lv_goto (tgt := 31) hx hb dX3_elementAt_27 (by decide) ?_
    rw [hQ]
    exact W.lret (v := gb (C 31) ((x1 * 40) + x2).toNatClampNeg) hx hb hr (fun t ht hW => ⟨gb (C 31) ((x1 * 40) + x2).toNatClampNeg, rfl, trivial, ht⟩) (fun q h => by cases h) dX3_elementAt_31

set_option maxHeartbeats 4000000 in
set_option maxRecDepth 100000 in
theorem c_X3_asSort (l : Launch) (D : va_G) (E : Nat → ClassId) (G : Nat → Nat) (x1 : Int32) (x2 : Int64) : Met l yX3_asSort (oh_w yX3_asSort cX3_asSort 3 (some .long)) ({ frames := 0, cells := 0, slots := 0, locals := 0 }) (oh_Pp D E G [.int x1, .long x2] []) (vp_Sl (fun r => True)) 0 0 (fun _ => False) := by
  refine Met.ofW (cc := cX3_asSort) (maxL := 3) (ret := (some .long)) (by decide) rfl ?_
  intro p e s m args below meth c s₁ B hml hv
  obtain ⟨rfl, hP, hK, hG⟩ := hv
  have hx := B.exec
  have hb := B.bytes
  have hr := B.returns
  have hts := atoms_spec (ws := (oh_w yX3_asSort cX3_asSort 3 (some .long))) B.pre
  have htg : ∀ w ∈ oh_t, w.before _ s = true := fun w h => hts w (List.mem_cons_of_mem _ h)
  have hown : s.vm.findClass RX3 = some m.cls := findClass_of_methodNamed B.named
  have hlocks := B.notSynchronized
  have hS : va_S (fun _ => False) s.heap s.heap [] := va_S.rf
  have hl := lv_entry ([.int x1, .long x2]) (n := 3) (Nat.le_of_ble_eq_true rfl)
  rw [lg_entry_eq]
  generalize (lg_sl ([.int x1, .long x2]) ++ List.replicate (3 - (lg_sl ([.int x1, .long x2])).length) Slot.unset).toArray = ls at hl ⊢
  have hl : lv_has ls 3 [(0, .int x1), (1, .long x2)] := hl
  refine oh_genQ (fun Q hQ => ?_)
  refine lv_iload_n hx hb dX3_asSort_0 rfl (lv_at hl 0 rfl) ?_
  by_cases c_1 : x1 = 0
  · refine lv_tableIn (off := 35) (tgt := 36) hx hb dX3_asSort_1 (by rw [c_1]; decide) (by rw [c_1]; decide) (by rw [c_1]; decide) (by decide) ?_
    refine lv_lload_n hx hb dX3_asSort_36 rfl (lv_at hl 1 rfl) ?_
    refine lv_l2i (v := Int64.toInt32 x2) hx hb dX3_asSort_37 rfl ?_
    refine lv_i2b (v := (Int64.toInt32 x2).toInt8.toInt32) hx hb dX3_asSort_38 rfl ?_
    refine lv_i2l (v := Int32.toInt64 ((Int64.toInt32 x2).toInt8.toInt32)) hx hb dX3_asSort_39 (by rfl) ?_
    rw [hQ]
    exact W.lret (v := Int32.toInt64 ((Int64.toInt32 x2).toInt8.toInt32)) hx hb hr (fun t ht hW => ⟨Int32.toInt64 ((Int64.toInt32 x2).toInt8.toInt32), rfl, trivial, ht⟩) (fun q h => by cases h) dX3_asSort_40
  · by_cases c_2 : x1 = 1
    · refine lv_tableIn (off := 40) (tgt := 41) hx hb dX3_asSort_1 (by rw [c_2]; decide) (by rw [c_2]; decide) (by rw [c_2]; decide) (by decide) ?_
      refine lv_lload_n hx hb dX3_asSort_41 rfl (lv_at hl 1 rfl) ?_
      refine lv_l2i (v := Int64.toInt32 x2) hx hb dX3_asSort_42 rfl ?_
      refine lv_i2s (v := (Int64.toInt32 x2).toInt16.toInt32) hx hb dX3_asSort_43 rfl ?_
      refine lv_i2l (v := Int32.toInt64 ((Int64.toInt32 x2).toInt16.toInt32)) hx hb dX3_asSort_44 (by rfl) ?_
      rw [hQ]
      exact W.lret (v := Int32.toInt64 ((Int64.toInt32 x2).toInt16.toInt32)) hx hb hr (fun t ht hW => ⟨Int32.toInt64 ((Int64.toInt32 x2).toInt16.toInt32), rfl, trivial, ht⟩) (fun q h => by cases h) dX3_asSort_45
    · by_cases c_3 : x1 = 2
      · refine lv_tableIn (off := 45) (tgt := 46) hx hb dX3_asSort_1 (by rw [c_3]; decide) (by rw [c_3]; decide) (by rw [c_3]; decide) (by decide) ?_
        refine lv_lload_n hx hb dX3_asSort_46 rfl (lv_at hl 1 rfl) ?_
        refine lv_l2i (v := Int64.toInt32 x2) hx hb dX3_asSort_47 rfl ?_
        refine lv_i2l (v := Int32.toInt64 (Int64.toInt32 x2)) hx hb dX3_asSort_48 (by rfl) ?_
        rw [hQ]
        exact W.lret (v := Int32.toInt64 (Int64.toInt32 x2)) hx hb hr (fun t ht hW => ⟨Int32.toInt64 (Int64.toInt32 x2), rfl, trivial, ht⟩) (fun q h => by cases h) dX3_asSort_49
      · by_cases c_4 : x1 = 3
        · refine lv_tableIn (off := 61) (tgt := 62) hx hb dX3_asSort_1 (by rw [c_4]; decide) (by rw [c_4]; decide) (by rw [c_4]; decide) (by decide) ?_
          refine lv_lload_n hx hb dX3_asSort_62 rfl (lv_at hl 1 rfl) ?_
          rw [hQ]
          exact W.lret (v := x2) hx hb hr (fun t ht hW => ⟨x2, rfl, trivial, ht⟩) (fun q h => by cases h) dX3_asSort_63
        · by_cases c_5 : x1 = 4
          · refine lv_tableIn (off := 49) (tgt := 50) hx hb dX3_asSort_1 (by rw [c_5]; decide) (by rw [c_5]; decide) (by rw [c_5]; decide) (by decide) ?_
            refine lv_lload_n hx hb dX3_asSort_50 rfl (lv_at hl 1 rfl) ?_
            refine lv_lconst (v := 0) hx hb dX3_asSort_51 (by decide) ?_
            refine W.lcmp hx hb dX3_asSort_52 ?_
            refine lv_if_eq (tgt := 60) hx hb dX3_asSort_53 (by decide) (fun (c_6 : (lg_cmp x2 0) = 0) => ?_) (fun (c_6 : ¬ ((lg_cmp x2 0) = 0)) => ?_)
            · refine lv_lconst (v := 0) hx hb dX3_asSort_60 (by decide) ?_
              rw [hQ]
              exact W.lret (v := 0) hx hb hr (fun t ht hW => ⟨0, rfl, trivial, ht⟩) (fun q h => by cases h) dX3_asSort_61
            · refine lv_lconst (v := 1) hx hb dX3_asSort_56 (by decide) ?_
              refine lv_goto (tgt := 61) hx hb dX3_asSort_57 (by decide) ?_
              rw [hQ]
              exact W.lret (v := 1) hx hb hr (fun t ht hW => ⟨1, rfl, trivial, ht⟩) (fun q h => by cases h) dX3_asSort_61
          · refine lv_tableOut (tgt := 62) hx hb dX3_asSort_1 (by have h9 := And.intro (oh_ne c_1 (k := 0) (by decide)) (And.intro (oh_ne c_2 (k := 1) (by decide)) (And.intro (oh_ne c_3 (k := 2) (by decide)) (And.intro (oh_ne c_4 (k := 3) (by decide)) (And.intro (oh_ne c_5 (k := 4) (by decide)) trivial)))); omega) (by decide) ?_
            refine lv_lload_n hx hb dX3_asSort_62 rfl (lv_at hl 1 rfl) ?_
            rw [hQ]
            exact W.lret (v := x2) hx hb hr (fun t ht hW => ⟨x2, rfl, trivial, ht⟩) (fun q h => by cases h) dX3_asSort_63

set_option maxHeartbeats 4000000 in
set_option maxRecDepth 100000 in
theorem c_X3_putElement (l : Launch) (D : va_G) (E : Nat → ClassId) (G : Nat → Nat) (sz : Nat) (a : Nat → Nat) (C : Nat → va_E) (hT : TyX a E C) (x1 : Int32) (x2 : Int32) (x3 : Int64) (hx1 : rg x1 0 7) (hx2 : rg x2 0 39) : Met l yX3_putElement (oh_w yX3_putElement cX3_putElement 5 none) ({ frames := 1, cells := 0, slots := 0, locals := 22 }) (oh_Pm D E G [.ref (a 4), .int x1, .int x2, .long x3] (oh_W 35 a C) sz) (va_Qv (fun (u : Nat → va_E) => TyX a E u ∧ fr [(31, 32)] [] C u ∧ True) (oh_B D (va_A (oh_W 35 a C) sz) (fun u => oh_W 35 a u)) (va_A (oh_W 35 a C) sz)) 0 0 (va_A (oh_W 35 a C) sz) := by
  refine Met.ofW (cc := cX3_putElement) (maxL := 5) (ret := none) (by decide) rfl ?_
  intro p e s m args below meth c s₁ B hml hv
  obtain ⟨rfl, hsz, hP, hK, hD0, hG⟩ := hv
  have hx := B.exec
  have hb := B.bytes
  have hr := B.returns
  have hts := atoms_spec (ws := (oh_w yX3_putElement cX3_putElement 5 none)) B.pre
  have htg : ∀ w ∈ oh_t, w.before _ s = true := fun w h => hts w (List.mem_cons_of_mem _ h)
  have hown : s.vm.findClass RX3 = some m.cls := findClass_of_methodNamed B.named
  have hlocks := B.notSynchronized
  have hT0 := hT
  subst hsz
  have hD := hD0.self (sz := s.heap.size)
  generalize hAe : va_A (oh_W 35 a C) s.heap.size = A at hD hG ⊢
  have hA : ∀ q : Nat, s.heap.size ≤ q → A q := fun q h => by rw [← hAe]; exact Or.inr h
  have hS : va_S A s.heap s.heap [] := va_S.rf
  have hF : fr [(31, 32)] [] C C := fr_rf
  have hl := lv_entry ([.ref (a 4), .int x1, .int x2, .long x3]) (n := 5) (Nat.le_of_ble_eq_true rfl)
  rw [lg_entry_eq]
  generalize (lg_sl ([.ref (a 4), .int x1, .int x2, .long x3]) ++ List.replicate (5 - (lg_sl ([.ref (a 4), .int x1, .int x2, .long x3])).length) Slot.unset).toArray = ls at hl ⊢
  have hl : lv_has ls 5 [(0, .ref (a 4)), (1, .int x1), (2, .int x2), (3, .long x3)] := hl
  refine oh_genQ (fun Q hQ => ?_)
  refine lv_aload_n hx hb dX3_putElement_0 rfl (lv_at hl 0 rfl) ?_
  refine va_get (D := D) (ci := 3) (v := .ref (a 31)) (C := RX3) (T := TX3) (N := 3) hx hb htg ig_3 hown hK hP 4 (oh_wg (by decide) (sX_4 hT)) rfl 2 (by decide) (htg _ q_202) (fun _ h9 => h9) rfl dX3_putElement_1 ?_
  refine lv_iload_n hx hb dX3_putElement_4 rfl (lv_at hl 1 rfl) ?_
  refine lv_bipush (v := 40) hx hb dX3_putElement_5 (by decide) ?_
  refine lv_imul hx hb dX3_putElement_7 ?_
  refine lv_iload_n hx hb dX3_putElement_8 rfl (lv_at hl 2 rfl) ?_
  refine lv_iadd hx hb dX3_putElement_9 ?_
  refine lv_aload_n hx hb dX3_putElement_10 rfl (lv_at hl 0 rfl) ?_
  refine va_get (D := D) (ci := 3) (v := .ref (a 29)) (C := RX3) (T := TX3) (N := 3) hx hb htg ig_3 hown hK hP 4 (oh_wg (by decide) (sX_4 hT)) rfl 0 (by decide) (htg _ q_198) (fun _ h9 => h9) rfl dX3_putElement_11 ?_
  refine lv_iload_n hx hb dX3_putElement_14 rfl (lv_at hl 1 rfl) ?_
  have n_1 : vp_in x1 8 := (rg_in hx1 (by decide))
  refine th_iald hx hb hK hP 29 (by decide) (sX_29 hT) n_1 dX3_putElement_15 ?_
  refine lv_lload_n hx hb dX3_putElement_16 rfl (lv_at hl 3 rfl) ?_
  refine tq_Sl (As := [.int (ga (C 29) (x1).toNatClampNeg), .long x3]) (rest := [.int ((x1 * 40) + x2), .ref (a 31)]) (ws := []) ⟨hx, hb, hml, hown, htg⟩ (c_X3_asSort l D E G (ga (C 29) (x1).toNatClampNeg) x3) (va_cwS 2 htg (oh_gS q_324 q_325 q_70 q_326) rfl rfl rfl pdX3_asSort ⟨Nat.le_of_ble_eq_true rfl, Nat.le_of_ble_eq_true rfl⟩) hK va_nil hG hS rfl hl.1 rfl (Nat.le_of_ble_eq_true rfl) dX3_putElement_17 ⟨Nat.le_of_ble_eq_true rfl, Nat.le_of_ble_eq_true rfl⟩ (fun r_2 hq_3 => ?_)
  have n_4 : vp_in ((x1 * 40) + x2) 320 := (rg_in (rg_add (lo := 0) (hi := 319) (rg_mul (lo := 0) (hi := 280) hx1 (rg_c (v := 40) (lo := 40) (hi := 40) (by decide)) (by decide)) hx2 (by decide)) (by decide))
  refine th_last (T := TyX a E) (Rl := fr [(31, 32)] [] C) hx hb hK hP hD hS 31 (by decide) (sX_31 hT) n_4 (hT.up 31 rfl) (fr_st hF (by decide) (by decide)) dX3_putElement_20 (fun C_5 H locs e_6 hT hF hP hD hS => ?_)
  have t_7 := hT
  rw [hQ]
  exact W.vret hx hb hr (fun t ht hW => ⟨⟨C_5, rfl, ⟨hT, hF, trivial⟩, ⟨by rw [ht]; exact hP, hD⟩⟩, hS.F ht⟩) hS.2.2 dX3_putElement_21
