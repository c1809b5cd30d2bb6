set_option maxHeartbeats 4000000 in
set_option maxRecDepth 100000 in
theorem c_X4_rewind (l : Launch) (D : va_G) (E : Nat → ClassId) (G : Nat → Nat) (sz : Nat) (a0 : Nat) (a0_bytes : Nat) : Met l yX4_rewind (oh_w yX4_rewind cX4_rewind 1 none) ({ frames := 1, cells := 0, slots := 0, locals := 20 }) (oh_Pm D E G [.ref a0] [(a0, .inr (4, [.ref a0_bytes, .int 0, .int (-1), .int 0, .int 0, .int 0]))] sz) (va_Qv (fun (_ : Unit) => True) (oh_B D (va_A [(a0, .inr (4, [.ref a0_bytes, .int 0, .int (-1), .int 0, .int 0, .int 0]))] sz) (fun _ => [(a0, .inr (4, [.ref a0_bytes, .int 0, .int (-1), .int 0, .int 0, .int 0]))])) (va_A [(a0, .inr (4, [.ref a0_bytes, .int 0, .int (-1), .int 0, .int 0, .int 0]))] sz)) 0 0 (va_A [(a0, .inr (4, [.ref a0_bytes, .int 0, .int (-1), .int 0, .int 0, .int 0]))] sz) := by
  refine Met.ofW (cc := cX4_rewind) (maxL := 1) (ret := none) (by decide) rfl ?_
  intro p e s m args below meth c s₁ B hml hv
  obtain ⟨rfl, hsz, hP, hK, hD0, hG⟩ := hv
  have hx := B.exec
  have hb := B.bytes
  have hr := B.returns
  have hts := atoms_spec (ws := (oh_w yX4_rewind cX4_rewind 1 none)) B.pre
  have htg : ∀ w ∈ oh_t, w.before _ s = true := fun w h => hts w (List.mem_cons_of_mem _ h)
  have hown : s.vm.findClass RX4 = some m.cls := findClass_of_methodNamed B.named
  have hlocks := B.notSynchronized
  subst hsz
  have hD := hD0.self (sz := s.heap.size)
  generalize hAe : va_A [(a0, .inr (4, [.ref a0_bytes, .int 0, .int (-1), .int 0, .int 0, .int 0]))] s.heap.size = A at hD hG ⊢
  have hA : ∀ q : Nat, s.heap.size ≤ q → A q := fun q h => by rw [← hAe]; exact Or.inr h
  have hS : va_S A s.heap s.heap [] := va_S.rf
  have hP : va_P D vwCl [(a0, .inr (4, [.ref a0_bytes, .int 0, .int (-1), .int 0, .int 0, .int 0]))] s.heap := hP
  have hl := lv_entry ([.ref a0]) (n := 1) (Nat.le_of_ble_eq_true rfl)
  rw [lg_entry_eq]
  generalize (lg_sl ([.ref a0]) ++ List.replicate (1 - (lg_sl ([.ref a0])).length) Slot.unset).toArray = ls at hl ⊢
  have hl : lv_has ls 1 [(0, .ref a0)] := hl
  refine lv_aload_n hx hb dX4_rewind_0 rfl (lv_at hl 0 rfl) ?_
  refine lv_iconst (v := (-1)) hx hb dX4_rewind_1 (by decide) ?_
  refine va_put (D := D) (ci := 4) (v := .int (-1)) (ty := .int) (C := RX4) (T := TX4) (N := 6) hx hb htg ig_4 tyX4 tyX4_ok nmX4 hown hK hP hD hS 0 rfl rfl 2 (by decide) (htg _ q_220) (fun _ h9 => h9) rfl (by decide +kernel) rfl rfl (Nat.le_of_ble_eq_true rfl) dX4_rewind_2 (fun H locs hP hD hS => ?_)
  have hP : va_P D vwCl [(a0, .inr (4, [.ref a0_bytes, .int 0, .int (-1), .int 0, .int 0, .int 0]))] H := hP
  have hD : va_D A [(a0, .inr (4, [.ref a0_bytes, .int 0, .int (-1), .int 0, .int 0, .int 0]))] := hD
  refine lv_aload_n hx hb dX4_rewind_5 rfl (lv_at hl 0 rfl) ?_
  refine lv_iconst (v := 0) hx hb dX4_rewind_6 (by decide) ?_
  refine va_put (D := D) (ci := 4) (v := .int 0) (ty := .int) (C := RX4) (T := TX4) (N := 6) hx hb htg ig_4 tyX4 tyX4_ok nmX4 hown hK hP hD hS 0 rfl rfl 5 (by decide) (htg _ q_224) (fun _ h9 => h9) rfl (by decide +kernel) rfl rfl (Nat.le_of_ble_eq_true rfl) dX4_rewind_7 (fun H locs hP hD hS => ?_)
  have hP : va_P D vwCl [(a0, .inr (4, [.ref a0_bytes, .int 0, .int (-1), .int 0, .int 0, .int 0]))] H := hP
  have hD : va_D A [(a0, .inr (4, [.ref a0_bytes, .int 0, .int (-1), .int 0, .int 0, .int 0]))] := hD
  refine lv_aload_n hx hb dX4_rewind_10 rfl (lv_at hl 0 rfl) ?_
  refine oh_mVv (As := []) (rest := []) (wr := []) ⟨hx, hb, hml, hown, htg⟩ (c_X4_advance l D E G H.size a0 a0_bytes) (cwV 0 htg (oh_gV q_508 q_509 q_510 q_71 q_511) rfl rfl rfl pdVX4_advance ⟨Nat.le_of_ble_eq_true rfl, Nat.le_of_ble_eq_true rfl⟩) hK hP hD hG hS hA [0] [] rfl rfl (by decide) (by decide) (by decide) (va_recv hK hP (ci := 4) (q0 := 0) rfl rfl) rfl hl.1 rfl (Nat.le_of_ble_eq_true rfl) dX4_rewind_11 ⟨Nat.le_of_ble_eq_true rfl, Nat.le_of_ble_eq_true rfl⟩ (fun u H locs hw hP hD hS => ?_)
  have hP : va_P D vwCl [(a0, .inr (4, [.ref a0_bytes, .int 0, .int (-1), .int 0, .int 0, .int 0]))] H := hP
  have hD : va_D A [(a0, .inr (4, [.ref a0_bytes, .int 0, .int (-1), .int 0, .int 0, .int 0]))] := hD
  refine W.widen (k := 0) (n := 0) (Nat.le_refl _) (Nat.le_refl _) ?_
  refine W.widen (k := 0) (n := 0) (Nat.le_of_ble_eq_true rfl) (Nat.le_of_ble_eq_true rfl) ?_
  exact W.vret hx hb hr (fun t ht hW => ⟨⟨(), rfl, trivial, ⟨by rw [ht]; exact hP.sub [0] rfl, hD.sub [0] (by decide) rfl⟩⟩, hS.F ht⟩) hS.2.2 dX4_rewind_14
set_option maxHeartbeats 4000000 in
set_option maxRecDepth 100000 in
theorem c_X4_isWord (l : Launch) (D : va_G) (E : Nat → ClassId) (G : Nat → Nat) (a0 : Nat) (a_w : Nat) (a0_bytes : Nat) : Met l yX4_isWord (oh_w yX4_isWord cX4_isWord 3 (some .boolean)) ({ frames := 0, cells := 0, slots := 0, locals := 0 }) (oh_Pp D E G [.ref a0, .ref a_w] [(a0, .inr (4, [.ref a0_bytes, .int 0, .int (-1), .int 0, .int 0, .int 0]))]) (vp_Si (fun r => r = 0)) 0 0 (fun _ => False) := by
  refine Met.ofW (cc := cX4_isWord) (maxL := 3) (ret := (some .boolean)) (by decide) rfl ?_
  intro p e s m args below meth c s₁ B hml hv
  obtain ⟨rfl, hP, hK, hG⟩ := hv
  have hx := B.exec
  have hb := B.bytes
  have hr := B.returns
  have hts := atoms_spec (ws := (oh_w yX4_isWord cX4_isWord 3 (some .boolean))) B.pre
  have htg : ∀ w ∈ oh_t, w.before _ s = true := fun w h => hts w (List.mem_cons_of_mem _ h)
  have hown : s.vm.findClass RX4 = some m.cls := findClass_of_methodNamed B.named
  have hlocks := B.notSynchronized
  have hS : va_S (fun _ => False) s.heap s.heap [] := va_S.rf
  have hl := lv_entry ([.ref a0, .ref a_w]) (n := 3) (Nat.le_of_ble_eq_true rfl)
  rw [lg_entry_eq]
  generalize (lg_sl ([.ref a0, .ref a_w]) ++ List.replicate (3 - (lg_sl ([.ref a0, .ref a_w])).length) Slot.unset).toArray = ls at hl ⊢
  have hl : lv_has ls 3 [(0, .ref a0), (1, .ref a_w)] := hl
  refine lv_aload_n hx hb dX4_isWord_0 rfl (lv_at hl 0 rfl) ?_
  refine va_get (D := D) (ci := 4) (v := .int (-1)) (C := RX4) (T := TX4) (N := 6) hx hb htg ig_4 hown hK hP 0 rfl rfl 2 (by decide) (htg _ q_220) (fun _ h9 => h9) rfl dX4_isWord_1 ?_
  refine lv_iconst (v := (-1)) hx hb dX4_isWord_4 (by decide) ?_
  refine lv_icmp_ne (tgt := 32) hx hb dX4_isWord_5 (by decide) (fun c => absurd (show (-1 : Int32) = (-1) from by decide) c) (fun _ => ?_)
  refine lv_aload_n hx hb dX4_isWord_8 rfl (lv_at hl 0 rfl) ?_
  refine va_get (D := D) (ci := 4) (v := .int 0) (C := RX4) (T := TX4) (N := 6) hx hb htg ig_4 hown hK hP 0 rfl rfl 3 (by decide) (htg _ q_222) (fun _ h9 => h9) rfl dX4_isWord_9 ?_
  refine lv_iconst (v := 1) hx hb dX4_isWord_12 (by decide) ?_
  refine lv_icmp_ne (tgt := 32) hx hb dX4_isWord_13 (by decide) (fun _ => ?_) (fun c => absurd c (show ¬ ((0 : Int32) = 1) from by decide))
  refine lv_iconst (v := 0) hx hb dX4_isWord_32 (by decide) ?_
  exact W.zret (v := 0) (ty := .boolean) hx hb hr (by decide) (fun t ht hW => ⟨0, rfl, rfl, ht⟩) (fun q h => by cases h) dX4_isWord_33
set_option maxHeartbeats 4000000 in
set_option maxRecDepth 100000 in
theorem c_X4_takeWordIfThere (l : Launch) (D : va_G) (E : Nat → ClassId) (G : Nat → Nat) (a0 : Nat) (a_w : Nat) (a0_bytes : Nat) : Met l yX4_takeWordIfThere (oh_w yX4_takeWordIfThere cX4_takeWordIfThere 3 (some .boolean)) ({ frames := 1, cells := 0, slots := 0, locals := 22 }) (oh_Pp D E G [.ref a0, .ref a_w] [(a0, .inr (4, [.ref a0_bytes, .int 0, .int (-1), .int 0, .int 0, .int 0]))]) (vp_Si (fun r => r = 0)) 0 0 (fun _ => False) := by
  refine Met.ofW (cc := cX4_takeWordIfThere) (maxL := 3) (ret := (some .boolean)) (by decide) rfl ?_
  intro p e s m args below meth c s₁ B hml hv
  obtain ⟨rfl, hP, hK, hG⟩ := hv
  have hx := B.exec
  have hb := B.bytes
  have hr := B.returns
  have hts := atoms_spec (ws := (oh_w yX4_takeWordIfThere cX4_takeWordIfThere 3 (some .boolean))) B.pre
  have htg : ∀ w ∈ oh_t, w.before _ s = true := fun w h => hts w (List.mem_cons_of_mem _ h)
  have hown : s.vm.findClass RX4 = some m.cls := findClass_of_methodNamed B.named
  have hlocks := B.notSynchronized
  have hS : va_S (fun _ => False) s.heap s.heap [] := va_S.rf
  have hl := lv_entry ([.ref a0, .ref a_w]) (n := 3) (Nat.le_of_ble_eq_true rfl)
  rw [lg_entry_eq]
  generalize (lg_sl ([.ref a0, .ref a_w]) ++ List.replicate (3 - (lg_sl ([.ref a0, .ref a_w])).length) Slot.unset).toArray = ls at hl ⊢
  have hl : lv_has ls 3 [(0, .ref a0), (1, .ref a_w)] := hl
  refine lv_aload_n hx hb dX4_takeWordIfThere_0 rfl (lv_at hl 0 rfl) ?_
  refine lv_aload_n hx hb dX4_takeWordIfThere_1 rfl (lv_at hl 1 rfl) ?_
  refine oh_pV (As := [.ref a_w]) (rest := []) (v := 0) ⟨hx, hb, hml, hown, htg⟩ (c_X4_isWord l D E G a0 a_w a0_bytes) (cwV 1 htg (oh_gV q_607 q_518 q_519 q_71 q_520) rfl rfl rfl pdVX4_isWord ⟨Nat.le_of_ble_eq_true rfl, Nat.le_of_ble_eq_true rfl⟩) hK (hP.sub (ws' := [(a0, .inr (4, [.ref a0_bytes, .int 0, .int (-1), .int 0, .int 0, .int 0]))]) [0] rfl) hG hS (va_recv hK hP (ci := 4) (q0 := 0) rfl rfl) rfl hl.1 rfl (Nat.le_of_ble_eq_true rfl) dX4_takeWordIfThere_2 ⟨Nat.le_of_ble_eq_true rfl, Nat.le_of_ble_eq_true rfl⟩ ?_
  refine lv_istore_n (lv' := [(2, .int 0), (0, .ref a0), (1, .ref a_w)]) hx hb dX4_takeWordIfThere_5 rfl hl (by decide) rfl (fun ls hl => ?_)
  refine lv_iload_n hx hb dX4_takeWordIfThere_6 rfl (lv_at hl 0 rfl) ?_
  refine lv_if_eq (tgt := 14) hx hb dX4_takeWordIfThere_7 (by decide) (fun _ => ?_) (fun c => absurd (show (0 : Int32) = 0 from by decide) c)
  refine lv_iload_n hx hb dX4_takeWordIfThere_14 rfl (lv_at hl 0 rfl) ?_
  exact W.zret (v := 0) (ty := .boolean) hx hb hr (by decide) (fun t ht hW => ⟨0, rfl, rfl, ht⟩) (fun q h => by cases h) dX4_takeWordIfThere_15
set_option maxHeartbeats 4000000 in
set_option maxRecDepth 100000 in
theorem c_X4_isSound (l : Launch) (D : va_G) (E : Nat → ClassId) (G : Nat → Nat) (a0 : Nat) (a0_bytes : Nat) : Met l yX4_isSound (oh_w yX4_isSound cX4_isSound 1 (some .boolean)) ({ frames := 0, cells := 0, slots := 0, locals := 0 }) (oh_Pp D E G [.ref a0] [(a0, .inr (4, [.ref a0_bytes, .int 0, .int 0, .int 0, .int 0, .int 0]))]) (vp_Si (fun r => r = 0)) 0 0 (fun _ => False) := by
  refine Met.ofW (cc := cX4_isSound) (maxL := 1) (ret := (some .boolean)) (by decide) rfl ?_
  intro p e s m args below meth c s₁ B hml hv
  obtain ⟨rfl, hP, hK, hG⟩ := hv
  have hx := B.exec
  have hb := B.bytes
  have hr := B.returns
  have hts := atoms_spec (ws := (oh_w yX4_isSound cX4_isSound 1 (some .boolean))) B.pre
  have htg : ∀ w ∈ oh_t, w.before _ s = true := fun w h => hts w (List.mem_cons_of_mem _ h)
  have hown : s.vm.findClass RX4 = some m.cls := findClass_of_methodNamed B.named
  have hlocks := B.notSynchronized
  have hS : va_S (fun _ => False) s.heap s.heap [] := va_S.rf
  have hl := lv_entry ([.ref a0]) (n := 1) (Nat.le_of_ble_eq_true rfl)
  rw [lg_entry_eq]
  generalize (lg_sl ([.ref a0]) ++ List.replicate (1 - (lg_sl ([.ref a0])).length) Slot.unset).toArray = ls at hl ⊢
  have hl : lv_has ls 1 [(0, .ref a0)] := hl
  refine lv_aload_n hx hb dX4_isSound_0 rfl (lv_at hl 0 rfl) ?_
  refine va_get (D := D) (ci := 4) (v := .int 0) (C := RX4) (T := TX4) (N := 6) hx hb htg ig_4 hown hK hP 0 rfl rfl 2 (by decide) (htg _ q_220) (fun _ h9 => h9) rfl dX4_isSound_1 ?_
  refine lv_iconst (v := (-1)) hx hb dX4_isSound_4 (by decide) ?_
  refine lv_icmp_ne (tgt := 12) hx hb dX4_isSound_5 (by decide) (fun _ => ?_) (fun c => absurd c (show ¬ ((0 : Int32) = (-1)) from by decide))
  refine lv_iconst (v := 0) hx hb dX4_isSound_12 (by decide) ?_
  exact W.zret (v := 0) (ty := .boolean) hx hb hr (by decide) (fun t ht hW => ⟨0, rfl, rfl, ht⟩) (fun q h => by cases h) dX4_isSound_13
set_option maxHeartbeats 4000000 in
set_option maxRecDepth 100000 in
theorem c_X4_fail (l : Launch) (D : va_G) (E : Nat → ClassId) (G : Nat → Nat) (sz : Nat) (a0 : Nat) (a0_bytes : Nat) : Met l yX4_fail (oh_w yX4_fail cX4_fail 1 none) ({ frames := 0, cells := 0, slots := 0, locals := 0 }) (oh_Pm D E G [.ref a0] [(a0, .inr (4, [.ref a0_bytes, .int 0, .int (-1), .int 0, .int 0, .int 0]))] sz) (va_Qv (fun (_ : Unit) => True) (oh_B D (va_A [(a0, .inr (4, [.ref a0_bytes, .int 0, .int (-1), .int 0, .int 0, .int 0]))] sz) (fun _ => [(a0, .inr (4, [.ref a0_bytes, .int 0, .int 0, .int 0, .int 0, .int 0]))])) (va_A [(a0, .inr (4, [.ref a0_bytes, .int 0, .int (-1), .int 0, .int 0, .int 0]))] sz)) 0 0 (va_A [(a0, .inr (4, [.ref a0_bytes, .int 0, .int (-1), .int 0, .int 0, .int 0]))] sz) := by
  refine Met.ofW (cc := cX4_fail) (maxL := 1) (ret := none) (by decide) rfl ?_
  intro p e s m args below meth c s₁ B hml hv
  obtain ⟨rfl, hsz, hP, hK, hD0, hG⟩ := hv
  have hx := B.exec
  have hb := B.bytes
  have hr := B.returns
  have hts := atoms_spec (ws := (oh_w yX4_fail cX4_fail 1 none)) B.pre
  have htg : ∀ w ∈ oh_t, w.before _ s = true := fun w h => hts w (List.mem_cons_of_mem _ h)
  have hown : s.vm.findClass RX4 = some m.cls := findClass_of_methodNamed B.named
  have hlocks := B.notSynchronized
  subst hsz
  have hD := hD0.self (sz := s.heap.size)
  generalize hAe : va_A [(a0, .inr (4, [.ref a0_bytes, .int 0, .int (-1), .int 0, .int 0, .int 0]))] s.heap.size = A at hD hG ⊢
  have hA : ∀ q : Nat, s.heap.size ≤ q → A q := fun q h => by rw [← hAe]; exact Or.inr h
  have hS : va_S A s.heap s.heap [] := va_S.rf
  have hP : va_P D vwCl [(a0, .inr (4, [.ref a0_bytes, .int 0, .int (-1), .int 0, .int 0, .int 0]))] s.heap := hP
  have hl := lv_entry ([.ref a0]) (n := 1) (Nat.le_of_ble_eq_true rfl)
  rw [lg_entry_eq]
  generalize (lg_sl ([.ref a0]) ++ List.replicate (1 - (lg_sl ([.ref a0])).length) Slot.unset).toArray = ls at hl ⊢
  have hl : lv_has ls 1 [(0, .ref a0)] := hl
  refine lv_aload_n hx hb dX4_fail_0 rfl (lv_at hl 0 rfl) ?_
  refine va_get (D := D) (ci := 4) (v := .int (-1)) (C := RX4) (T := TX4) (N := 6) hx hb htg ig_4 hown hK hP 0 rfl rfl 2 (by decide) (htg _ q_220) (fun _ h9 => h9) rfl dX4_fail_1 ?_
  refine lv_iconst (v := (-1)) hx hb dX4_fail_4 (by decide) ?_
  refine lv_icmp_ne (tgt := 16) hx hb dX4_fail_5 (by decide) (fun c => absurd (show (-1 : Int32) = (-1) from by decide) c) (fun _ => ?_)
  refine lv_aload_n hx hb dX4_fail_8 rfl (lv_at hl 0 rfl) ?_
  refine lv_aload_n hx hb dX4_fail_9 rfl (lv_at hl 0 rfl) ?_
  refine va_get (D := D) (ci := 4) (v := .int 0) (C := RX4) (T := TX4) (N := 6) hx hb htg ig_4 hown hK hP 0 rfl rfl 4 (by decide) (htg _ q_223) (fun _ h9 => h9) rfl dX4_fail_10 ?_
  refine va_put (D := D) (ci := 4) (v := .int 0) (ty := .int) (C := RX4) (T := TX4) (N := 6) hx hb htg ig_4 tyX4 tyX4_ok nmX4 hown hK hP hD hS 0 rfl rfl 2 (by decide) (htg _ q_220) (fun _ h9 => h9) rfl (by decide +kernel) rfl rfl (Nat.le_of_ble_eq_true rfl) dX4_fail_13 (fun H locs hP hD hS => ?_)
  have hP : va_P D vwCl [(a0, .inr (4, [.ref a0_bytes, .int 0, .int 0, .int 0, .int 0, .int 0]))] H := hP
  have hD : va_D A [(a0, .inr (4, [.ref a0_bytes, .int 0, .int 0, .int 0, .int 0, .int 0]))] := hD
  refine W.widen (k := 0) (n := 0) (Nat.le_of_ble_eq_true rfl) (Nat.le_of_ble_eq_true rfl) ?_
  exact W.vret hx hb hr (fun t ht hW => ⟨⟨(), rfl, trivial, ⟨by rw [ht]; exact hP.sub [0] rfl, hD.sub [0] (by decide) rfl⟩⟩, hS.F ht⟩) hS.2.2 dX4_fail_16
set_option maxHeartbeats 4000000 in
set_option maxRecDepth 100000 in
theorem c_X2_readStatement (l : Launch) (D : va_G) (E : Nat → ClassId) (G : Nat → Nat) (sz : Nat) (a0 : Nat) (a0_tape : Nat) (a0_land : Nat) (a0_countsBefore : Nat) (a0_settingsBefore : Nat) (a0_tape_bytes : Nat) : Met l yX2_readStatement (oh_w yX2_readStatement cX2_readStatement 1 none) ({ frames := 2, cells := 0, slots := 0, locals := 44 }) (oh_Pm D E G [.ref a0] [(a0, .inr (2, [.ref a0_tape, .ref a0_land, .ref a0_countsBefore, .ref a0_settingsBefore])), (a0_tape, .inr (4, [.ref a0_tape_bytes, .int 0, .int (-1), .int 0, .int 0, .int 0]))] sz) (va_Qv (fun (_ : Unit) => True) (oh_B D (va_A [(a0, .inr (2, [.ref a0_tape, .ref a0_land, .ref a0_countsBefore, .ref a0_settingsBefore])), (a0_tape, .inr (4, [.ref a0_tape_bytes, .int 0, .int (-1), .int 0, .int 0, .int 0]))] sz) (fun _ => [(a0, .inr (2, [.ref a0_tape, .ref a0_land, .ref a0_countsBefore, .ref a0_settingsBefore])), (a0_tape, .inr (4, [.ref a0_tape_bytes, .int 0, .int 0, .int 0, .int 0, .int 0]))])) (va_A [(a0, .inr (2, [.ref a0_tape, .ref a0_land, .ref a0_countsBefore, .ref a0_settingsBefore])), (a0_tape, .inr (4, [.ref a0_tape_bytes, .int 0, .int (-1), .int 0, .int 0, .int 0]))] sz)) 0 0 (va_A [(a0, .inr (2, [.ref a0_tape, .ref a0_land, .ref a0_countsBefore, .ref a0_settingsBefore])), (a0_tape, .inr (4, [.ref a0_tape_bytes, .int 0, .int (-1), .int 0, .int 0, .int 0]))] sz) := by
  refine Met.ofW (cc := cX2_readStatement) (maxL := 1) (ret := none) (by decide) rfl ?_
  intro p e s m args below meth c s₁ B hml hv
  obtain ⟨rfl, hsz, hP, hK, hD0, hG⟩ := hv
  have hx := B.exec
  have hb := B.bytes
  have hr := B.returns
  have hts := atoms_spec (ws := (oh_w yX2_readStatement cX2_readStatement 1 none)) B.pre
  have htg : ∀ w ∈ oh_t, w.before _ s = true := fun w h => hts w (List.mem_cons_of_mem _ h)
  have hown : s.vm.findClass RX2 = some m.cls := findClass_of_methodNamed B.named
  have hlocks := B.notSynchronized
  subst hsz
  have hD := hD0.self (sz := s.heap.size)
  generalize hAe : va_A [(a0, .inr (2, [.ref a0_tape, .ref a0_land, .ref a0_countsBefore, .ref a0_settingsBefore])), (a0_tape, .inr (4, [.ref a0_tape_bytes, .int 0, .int (-1), .int 0, .int 0, .int 0]))] s.heap.size = A at hD hG ⊢
  have hA : ∀ q : Nat, s.heap.size ≤ q → A q := fun q h => by rw [← hAe]; exact Or.inr h
  have hS : va_S A s.heap s.heap [] := va_S.rf
  have hP : va_P D vwCl [(a0, .inr (2, [.ref a0_tape, .ref a0_land, .ref a0_countsBefore, .ref a0_settingsBefore])), (a0_tape, .inr (4, [.ref a0_tape_bytes, .int 0, .int (-1), .int 0, .int 0, .int 0]))] s.heap := hP
  have hl := lv_entry ([.ref a0]) (n := 1) (Nat.le_of_ble_eq_true rfl)
  rw [lg_entry_eq]
  generalize (lg_sl ([.ref a0]) ++ List.replicate (1 - (lg_sl ([.ref a0])).length) Slot.unset).toArray = ls at hl ⊢
  have hl : lv_has ls 1 [(0, .ref a0)] := hl
  refine lv_aload_n hx hb dX2_readStatement_0 rfl (lv_at hl 0 rfl) ?_
  refine va_get (D := D) (ci := 2) (v := .ref a0_tape) (C := RX2) (T := TX2) (N := 4) hx hb htg ig_2 hown hK hP 0 rfl rfl 0 (by decide) (htg _ q_245) (fun _ h9 => h9) rfl dX2_readStatement_1 ?_
  refine va_ldcS hx hb hown (hG.2.2.1 ("OneHeavyLoad$Reader", 61, "road", 3) (List.mem_of_getElem? (i := 0) rfl)) dX2_readStatement_4 ?_
  refine oh_pV (As := [.ref (G 3)]) (rest := []) (v := 0) ⟨hx, hb, hml, hown, htg⟩ (c_X4_isWord l D E G a0_tape (G 3) a0_tape_bytes) (cwV 1 htg (oh_gV q_517 q_518 q_519 q_71 q_520) rfl rfl rfl pdVX4_isWord ⟨Nat.le_of_ble_eq_true rfl, Nat.le_of_ble_eq_true rfl⟩) hK (hP.sub (ws' := [(a0_tape, .inr (4, [.ref a0_tape_bytes, .int 0, .int (-1), .int 0, .int 0, .int 0]))]) [1] rfl) hG hS (va_recv hK hP (ci := 4) (q0 := 1) rfl rfl) rfl hl.1 rfl (Nat.le_of_ble_eq_true rfl) dX2_readStatement_6 ⟨Nat.le_of_ble_eq_true rfl, Nat.le_of_ble_eq_true rfl⟩ ?_
  refine lv_if_eq (tgt := 19) hx hb dX2_readStatement_9 (by decide) (fun _ => ?_) (fun c => absurd (show (0 : Int32) = 0 from by decide) c)
  refine lv_aload_n hx hb dX2_readStatement_19 rfl (lv_at hl 0 rfl) ?_
  refine va_get (D := D) (ci := 2) (v := .ref a0_tape) (C := RX2) (T := TX2) (N := 4) hx hb htg ig_2 hown hK hP 0 rfl rfl 0 (by decide) (htg _ q_245) (fun _ h9 => h9) rfl dX2_readStatement_20 ?_
  refine va_ldcS hx hb hown (hG.2.2.1 ("OneHeavyLoad$Reader", 70, "bridge", 8) (List.mem_of_getElem? (i := 5) rfl)) dX2_readStatement_23 ?_
  refine oh_pV (As := [.ref (G 8)]) (rest := []) (v := 0) ⟨hx, hb, hml, hown, htg⟩ (c_X4_isWord l D E G a0_tape (G 8) a0_tape_bytes) (cwV 1 htg (oh_gV q_517 q_518 q_519 q_71 q_520) rfl rfl rfl pdVX4_isWord ⟨Nat.le_of_ble_eq_true rfl, Nat.le_of_ble_eq_true rfl⟩) hK (hP.sub (ws' := [(a0_tape, .inr (4, [.ref a0_tape_bytes, .int 0, .int (-1), .int 0, .int 0, .int 0]))]) [1] rfl) hG hS (va_recv hK hP (ci := 4) (q0 := 1) rfl rfl) rfl hl.1 rfl (Nat.le_of_ble_eq_true rfl) dX2_readStatement_25 ⟨Nat.le_of_ble_eq_true rfl, Nat.le_of_ble_eq_true rfl⟩ ?_
  refine lv_if_eq (tgt := 38) hx hb dX2_readStatement_28 (by decide) (fun _ => ?_) (fun c => absurd (show (0 : Int32) = 0 from by decide) c)
  refine lv_aload_n hx hb dX2_readStatement_38 rfl (lv_at hl 0 rfl) ?_
  refine va_get (D := D) (ci := 2) (v := .ref a0_tape) (C := RX2) (T := TX2) (N := 4) hx hb htg ig_2 hown hK hP 0 rfl rfl 0 (by decide) (htg _ q_245) (fun _ h9 => h9) rfl dX2_readStatement_39 ?_
  refine va_ldcS hx hb hown (hG.2.2.1 ("OneHeavyLoad$Reader", 75, "waggon", 14) (List.mem_of_getElem? (i := 11) rfl)) dX2_readStatement_42 ?_
  refine oh_pV (As := [.ref (G 14)]) (rest := []) (v := 0) ⟨hx, hb, hml, hown, htg⟩ (c_X4_isWord l D E G a0_tape (G 14) a0_tape_bytes) (cwV 1 htg (oh_gV q_517 q_518 q_519 q_71 q_520) rfl rfl rfl pdVX4_isWord ⟨Nat.le_of_ble_eq_true rfl, Nat.le_of_ble_eq_true rfl⟩) hK (hP.sub (ws' := [(a0_tape, .inr (4, [.ref a0_tape_bytes, .int 0, .int (-1), .int 0, .int 0, .int 0]))]) [1] rfl) hG hS (va_recv hK hP (ci := 4) (q0 := 1) rfl rfl) rfl hl.1 rfl (Nat.le_of_ble_eq_true rfl) dX2_readStatement_44 ⟨Nat.le_of_ble_eq_true rfl, Nat.le_of_ble_eq_true rfl⟩ ?_
  refine lv_if_eq (tgt := 57) hx hb dX2_readStatement_47 (by decide) (fun _ => ?_) (fun c => absurd (show (0 : Int32) = 0 from by decide) c)
  refine lv_aload_n hx hb dX2_readStatement_57 rfl (lv_at hl 0 rfl) ?_
  refine va_get (D := D) (ci := 2) (v := .ref a0_tape) (C := RX2) (T := TX2) (N := 4) hx hb htg ig_2 hown hK hP 0 rfl rfl 0 (by decide) (htg _ q_245) (fun _ h9 => h9) rfl dX2_readStatement_58 ?_
  refine va_ldcS hx hb hown (hG.2.2.1 ("OneHeavyLoad$Reader", 80, "part", 17) (List.mem_of_getElem? (i := 14) rfl)) dX2_readStatement_61 ?_
  refine oh_pV (As := [.ref (G 17)]) (rest := []) (v := 0) ⟨hx, hb, hml, hown, htg⟩ (c_X4_isWord l D E G a0_tape (G 17) a0_tape_bytes) (cwV 1 htg (oh_gV q_517 q_518 q_519 q_71 q_520) rfl rfl rfl pdVX4_isWord ⟨Nat.le_of_ble_eq_true rfl, Nat.le_of_ble_eq_true rfl⟩) hK (hP.sub (ws' := [(a0_tape, .inr (4, [.ref a0_tape_bytes, .int 0, .int (-1), .int 0, .int 0, .int 0]))]) [1] rfl) hG hS (va_recv hK hP (ci := 4) (q0 := 1) rfl rfl) rfl hl.1 rfl (Nat.le_of_ble_eq_true rfl) dX2_readStatement_63 ⟨Nat.le_of_ble_eq_true rfl, Nat.le_of_ble_eq_true rfl⟩ ?_
  refine lv_if_eq (tgt := 76) hx hb dX2_readStatement_66 (by decide) (fun _ => ?_) (fun c => absurd (show (0 : Int32) = 0 from by decide) c)
  refine lv_aload_n hx hb dX2_readStatement_76 rfl (lv_at hl 0 rfl) ?_
  refine va_get (D := D) (ci := 2) (v := .ref a0_tape) (C := RX2) (T := TX2) (N := 4) hx hb htg ig_2 hown hK hP 0 rfl rfl 0 (by decide) (htg _ q_245) (fun _ h9 => h9) rfl dX2_readStatement_77 ?_
  refine va_ldcS hx hb hown (hG.2.2.1 ("OneHeavyLoad$Reader", 85, "load", 18) (List.mem_of_getElem? (i := 15) rfl)) dX2_readStatement_80 ?_
  refine oh_pV (As := [.ref (G 18)]) (rest := []) (v := 0) ⟨hx, hb, hml, hown, htg⟩ (c_X4_takeWordIfThere l D E G a0_tape (G 18) a0_tape_bytes) (cwV 1 htg (oh_gV q_613 q_614 q_615 q_71 q_616) rfl rfl rfl pdVX4_takeWordIfThere ⟨Nat.le_of_ble_eq_true rfl, Nat.le_of_ble_eq_true rfl⟩) hK (hP.sub (ws' := [(a0_tape, .inr (4, [.ref a0_tape_bytes, .int 0, .int (-1), .int 0, .int 0, .int 0]))]) [1] rfl) hG hS (va_recv hK hP (ci := 4) (q0 := 1) rfl rfl) rfl hl.1 rfl (Nat.le_of_ble_eq_true rfl) dX2_readStatement_82 ⟨Nat.le_of_ble_eq_true rfl, Nat.le_of_ble_eq_true rfl⟩ ?_
  refine lv_if_eq (tgt := 96) hx hb dX2_readStatement_85 (by decide) (fun _ => ?_) (fun c => absurd (show (0 : Int32) = 0 from by decide) c)
  refine lv_aload_n hx hb dX2_readStatement_96 rfl (lv_at hl 0 rfl) ?_
  refine va_get (D := D) (ci := 2) (v := .ref a0_tape) (C := RX2) (T := TX2) (N := 4) hx hb htg ig_2 hown hK hP 0 rfl rfl 0 (by decide) (htg _ q_245) (fun _ h9 => h9) rfl dX2_readStatement_97 ?_
  refine va_ldcS hx hb hown (hG.2.2.1 ("OneHeavyLoad$Reader", 94, "mile", 19) (List.mem_of_getElem? (i := 16) rfl)) dX2_readStatement_100 ?_
  refine oh_pV (As := [.ref (G 19)]) (rest := []) (v := 0) ⟨hx, hb, hml, hown, htg⟩ (c_X4_takeWordIfThere l D E G a0_tape (G 19) a0_tape_bytes) (cwV 1 htg (oh_gV q_613 q_614 q_615 q_71 q_616) rfl rfl rfl pdVX4_takeWordIfThere ⟨Nat.le_of_ble_eq_true rfl, Nat.le_of_ble_eq_true rfl⟩) hK (hP.sub (ws' := [(a0_tape, .inr (4, [.ref a0_tape_bytes, .int 0, .int (-1), .int 0, .int 0, .int 0]))]) [1] rfl) hG hS (va_recv hK hP (ci := 4) (q0 := 1) rfl rfl) rfl hl.1 rfl (Nat.le_of_ble_eq_true rfl) dX2_readStatement_102 ⟨Nat.le_of_ble_eq_true rfl, Nat.le_of_ble_eq_true rfl⟩ ?_
  refine lv_if_eq (tgt := 116) hx hb dX2_readStatement_105 (by decide) (fun _ => ?_) (fun c => absurd (show (0 : Int32) = 0 from by decide) c)
  refine lv_aload_n hx hb dX2_readStatement_116 rfl (lv_at hl 0 rfl) ?_
  refine va_get (D := D) (ci := 2) (v := .ref a0_tape) (C := RX2) (T := TX2) (N := 4) hx hb htg ig_2 hown hK hP 0 rfl rfl 0 (by decide) (htg _ q_245) (fun _ h9 => h9) rfl dX2_readStatement_117 ?_
  refine oh_mVv (As := []) (rest := []) (wr := [(a0, .inr (2, [.ref a0_tape, .ref a0_land, .ref a0_countsBefore, .ref a0_settingsBefore]))]) ⟨hx, hb, hml, hown, htg⟩ (c_X4_fail l D E G s.heap.size a0_tape a0_tape_bytes) (cwV 0 htg (oh_gV q_579 q_580 q_581 q_71 q_582) rfl rfl rfl pdVX4_fail ⟨Nat.le_of_ble_eq_true rfl, Nat.le_of_ble_eq_true rfl⟩) hK hP hD hG hS hA [1] [0] rfl rfl (by decide) (by decide) (by decide) (va_recv hK hP (ci := 4) (q0 := 1) rfl rfl) rfl hl.1 rfl (Nat.le_of_ble_eq_true rfl) dX2_readStatement_120 ⟨Nat.le_of_ble_eq_true rfl, Nat.le_of_ble_eq_true rfl⟩ (fun u H locs hw hP hD hS => ?_)
  have hP : va_P D vwCl [(a0, .inr (2, [.ref a0_tape, .ref a0_land, .ref a0_countsBefore, .ref a0_settingsBefore])), (a0_tape, .inr (4, [.ref a0_tape_bytes, .int 0, .int 0, .int 0, .int 0, .int 0]))] H := hP
  have hD : va_D A [(a0, .inr (2, [.ref a0_tape, .ref a0_land, .ref a0_countsBefore, .ref a0_settingsBefore])), (a0_tape, .inr (4, [.ref a0_tape_bytes, .int 0, .int 0, .int 0, .int 0, .int 0]))] := hD
  refine W.widen (k := 0) (n := 0) (Nat.le_refl _) (Nat.le_refl _) ?_
  refine W.widen (k := 0) (n := 0) (Nat.le_of_ble_eq_true rfl) (Nat.le_of_ble_eq_true rfl) ?_
  exact W.vret hx hb hr (fun t ht hW => ⟨⟨(), rfl, trivial, ⟨by rw [ht]; exact hP.sub [0, 1] rfl, hD.sub [0, 1] (by decide) rfl⟩⟩, hS.F ht⟩) hS.2.2 dX2_readStatement_123
set_option maxHeartbeats 4000000 in
set_option maxRecDepth 100000 in
theorem c_X2_read (l : Launch) (D : va_G) (E : Nat → ClassId) (G : Nat → Nat) (sz : Nat) (a0 : Nat) (a0_tape : Nat) (a0_land : Nat) (a0_countsBefore : Nat) (a0_settingsBefore : Nat) (a0_tape_bytes : Nat) (a0_land_counts : Nat) (a0_land_roads : Nat) (a0_land_bridges : Nat) (a0_land_waggons : Nat) (a0_land_parts : Nat) (a0_land_settings : Nat) (a0_land_trip : Nat) : Met l yX2_read (oh_w yX2_read cX2_read 2 (some .int)) ({ frames := 3, cells := 0, slots := 0, locals := 64 }) (oh_Pm D E G [.ref a0] [(a0, .inr (2, [.ref a0_tape, .ref a0_land, .ref a0_countsBefore, .ref a0_settingsBefore])), (a0_tape, .inr (4, [.ref a0_tape_bytes, .int 0, .int (-1), .int 0, .int 0, .int 0])), (a0_land, .inr (0, [.ref a0_land_counts, .ref a0_land_roads, .ref a0_land_bridges, .ref a0_land_waggons, .ref a0_land_parts, .ref a0_land_settings, .ref a0_land_trip, .int 0])), (a0_land_counts, .inl (E 0, 4, .inl (fun _ => 0))), (a0_land_settings, .inl (E 0, 3, .inl (upd (upd (fun _ => 0) 0 100) 1 2))), (a0_countsBefore, .inl (E 0, 4, .inl (fun _ => 0))), (a0_settingsBefore, .inl (E 0, 3, .inl (fun _ => 0)))] sz) (va_Qi (fun r (_ : Unit) => r = 1) (oh_B D (va_A [(a0, .inr (2, [.ref a0_tape, .ref a0_land, .ref a0_countsBefore, .ref a0_settingsBefore])), (a0_tape, .inr (4, [.ref a0_tape_bytes, .int 0, .int (-1), .int 0, .int 0, .int 0])), (a0_land, .inr (0, [.ref a0_land_counts, .ref a0_land_roads, .ref a0_land_bridges, .ref a0_land_waggons, .ref a0_land_parts, .ref a0_land_settings, .ref a0_land_trip, .int 0])), (a0_land_counts, .inl (E 0, 4, .inl (fun _ => 0))), (a0_land_settings, .inl (E 0, 3, .inl (upd (upd (fun _ => 0) 0 100) 1 2))), (a0_countsBefore, .inl (E 0, 4, .inl (fun _ => 0))), (a0_settingsBefore, .inl (E 0, 3, .inl (fun _ => 0)))] sz) (fun _ => [(a0_tape, .inr (4, [.ref a0_tape_bytes, .int 0, .int 0, .int 0, .int 0, .int 0]))])) (va_A [(a0, .inr (2, [.ref a0_tape, .ref a0_land, .ref a0_countsBefore, .ref a0_settingsBefore])), (a0_tape, .inr (4, [.ref a0_tape_bytes, .int 0, .int (-1), .int 0, .int 0, .int 0])), (a0_land, .inr (0, [.ref a0_land_counts, .ref a0_land_roads, .ref a0_land_bridges, .ref a0_land_waggons, .ref a0_land_parts, .ref a0_land_settings, .ref a0_land_trip, .int 0])), (a0_land_counts, .inl (E 0, 4, .inl (fun _ => 0))), (a0_land_settings, .inl (E 0, 3, .inl (upd (upd (fun _ => 0) 0 100) 1 2))), (a0_countsBefore, .inl (E 0, 4, .inl (fun _ => 0))), (a0_settingsBefore, .inl (E 0, 3, .inl (fun _ => 0)))] sz)) 0 0 (va_A [(a0, .inr (2, [.ref a0_tape, .ref a0_land, .ref a0_countsBefore, .ref a0_settingsBefore])), (a0_tape, .inr (4, [.ref a0_tape_bytes, .int 0, .int (-1), .int 0, .int 0, .int 0])), (a0_land, .inr (0, [.ref a0_land_counts, .ref a0_land_roads, .ref a0_land_bridges, .ref a0_land_waggons, .ref a0_land_parts, .ref a0_land_settings, .ref a0_land_trip, .int 0])), (a0_land_counts, .inl (E 0, 4, .inl (fun _ => 0))), (a0_land_settings, .inl (E 0, 3, .inl (upd (upd (fun _ => 0) 0 100) 1 2))), (a0_countsBefore, .inl (E 0, 4, .inl (fun _ => 0))), (a0_settingsBefore, .inl (E 0, 3, .inl (fun _ => 0)))] sz) := by
  refine Met.ofW (cc := cX2_read) (maxL := 2) (ret := (some .int)) (by decide) rfl ?_
  intro p e s m args below meth c s₁ B hml hv
  obtain ⟨rfl, hsz, hP, hK, hD0, hG⟩ := hv
  have hx := B.exec
  have hb := B.bytes
  have hr := B.returns
  have hts := atoms_spec (ws := (oh_w yX2_read cX2_read 2 (some .int))) B.pre
  have htg : ∀ w ∈ oh_t, w.before _ s = true := fun w h => hts w (List.mem_cons_of_mem _ h)
  have hown : s.vm.findClass RX2 = some m.cls := findClass_of_methodNamed B.named
  have hlocks := B.notSynchronized
  subst hsz
  have hD := hD0.self (sz := s.heap.size)
  generalize hAe : va_A [(a0, .inr (2, [.ref a0_tape, .ref a0_land, .ref a0_countsBefore, .ref a0_settingsBefore])), (a0_tape, .inr (4, [.ref a0_tape_bytes, .int 0, .int (-1), .int 0, .int 0, .int 0])), (a0_land, .inr (0, [.ref a0_land_counts, .ref a0_land_roads, .ref a0_land_bridges, .ref a0_land_waggons, .ref a0_land_parts, .ref a0_land_settings, .ref a0_land_trip, .int 0])), (a0_land_counts, .inl (E 0, 4, .inl (fun _ => 0))), (a0_land_settings, .inl (E 0, 3, .inl (upd (upd (fun _ => 0) 0 100) 1 2))), (a0_countsBefore, .inl (E 0, 4, .inl (fun _ => 0))), (a0_settingsBefore, .inl (E 0, 3, .inl (fun _ => 0)))] s.heap.size = A at hD hG ⊢
  have hA : ∀ q : Nat, s.heap.size ≤ q → A q := fun q h => by rw [← hAe]; exact Or.inr h
  have hS : va_S A s.heap s.heap [] := va_S.rf
  have hP : va_P D vwCl [(a0, .inr (2, [.ref a0_tape, .ref a0_land, .ref a0_countsBefore, .ref a0_settingsBefore])), (a0_tape, .inr (4, [.ref a0_tape_bytes, .int 0, .int (-1), .int 0, .int 0, .int 0])), (a0_land, .inr (0, [.ref a0_land_counts, .ref a0_land_roads, .ref a0_land_bridges, .ref a0_land_waggons, .ref a0_land_parts, .ref a0_land_settings, .ref a0_land_trip, .int 0])), (a0_land_counts, .inl (E 0, 4, .inl (fun _ => 0))), (a0_land_settings, .inl (E 0, 3, .inl (upd (upd (fun _ => 0) 0 100) 1 2))), (a0_countsBefore, .inl (E 0, 4, .inl (fun _ => 0))), (a0_settingsBefore, .inl (E 0, 3, .inl (fun _ => 0)))] s.heap := hP
  have hl := lv_entry ([.ref a0]) (n := 2) (Nat.le_of_ble_eq_true rfl)
  rw [lg_entry_eq]
  generalize (lg_sl ([.ref a0]) ++ List.replicate (2 - (lg_sl ([.ref a0])).length) Slot.unset).toArray = ls at hl ⊢
  have hl : lv_has ls 2 [(0, .ref a0)] := hl
  refine lv_aload_n hx hb dX2_read_0 rfl (lv_at hl 0 rfl) ?_
  refine va_get (D := D) (ci := 2) (v := .ref a0_land) (C := RX2) (T := TX2) (N := 4) hx hb htg ig_2 hown hK hP 0 rfl rfl 1 (by decide) (htg _ q_246) (fun _ h9 => h9) rfl dX2_read_1 ?_
  refine va_get (D := D) (ci := 0) (v := .ref a0_land_counts) (C := RX0) (T := TX0) (N := 8) hx hb htg ig_0 hown hK hP 2 rfl rfl 0 (by decide) (htg _ q_98) (fun _ h9 => h9) rfl dX2_read_4 ?_
  refine lv_iconst (v := 0) hx hb dX2_read_7 (by decide) ?_
  refine lv_aload_n hx hb dX2_read_8 rfl (lv_at hl 0 rfl) ?_
  refine va_get (D := D) (ci := 2) (v := .ref a0_countsBefore) (C := RX2) (T := TX2) (N := 4) hx hb htg ig_2 hown hK hP 0 rfl rfl 2 (by decide) (htg _ q_247) (fun _ h9 => h9) rfl dX2_read_9 ?_
  refine lv_iconst (v := 0) hx hb dX2_read_12 (by decide) ?_
  refine lv_aload_n hx hb dX2_read_13 rfl (lv_at hl 0 rfl) ?_
  refine va_get (D := D) (ci := 2) (v := .ref a0_countsBefore) (C := RX2) (T := TX2) (N := 4) hx hb htg ig_2 hown hK hP 0 rfl rfl 2 (by decide) (htg _ q_247) (fun _ h9 => h9) rfl dX2_read_14 ?_
  refine va_alen (v := 4) hx hb hK hP 5 0 rfl rfl (by decide) dX2_read_17 ?_
  refine va_copyi (ty := .int) hx hb (by rw [hml]; exact hl.1.symm) hown (htg _ q_503) (htg _ q_347) (htg _ q_346) (htg _ q_74) hK hP hD hS 3 5 0 0 rfl rfl rfl rfl rfl (by decide) (by decide) (by decide) (by decide) (by decide) (fun _ _ => rfl) (Nat.le_of_ble_eq_true rfl) (Nat.le_of_ble_eq_true rfl) dX2_read_18 (fun H locs hP hD hS => ?_)
  have hP : va_P D vwCl [(a0, .inr (2, [.ref a0_tape, .ref a0_land, .ref a0_countsBefore, .ref a0_settingsBefore])), (a0_tape, .inr (4, [.ref a0_tape_bytes, .int 0, .int (-1), .int 0, .int 0, .int 0])), (a0_land, .inr (0, [.ref a0_land_counts, .ref a0_land_roads, .ref a0_land_bridges, .ref a0_land_waggons, .ref a0_land_parts, .ref a0_land_settings, .ref a0_land_trip, .int 0])), (a0_land_counts, .inl (E 0, 4, .inl (fun _ => 0))), (a0_land_settings, .inl (E 0, 3, .inl (upd (upd (fun _ => 0) 0 100) 1 2))), (a0_countsBefore, .inl (E 0, 4, .inl (va_cpy (fun _ => 0) (fun _ => 0) 0 0 4))), (a0_settingsBefore, .inl (E 0, 3, .inl (fun _ => 0)))] H := hP
  have hD : va_D A [(a0, .inr (2, [.ref a0_tape, .ref a0_land, .ref a0_countsBefore, .ref a0_settingsBefore])), (a0_tape, .inr (4, [.ref a0_tape_bytes, .int 0, .int (-1), .int 0, .int 0, .int 0])), (a0_land, .inr (0, [.ref a0_land_counts, .ref a0_land_roads, .ref a0_land_bridges, .ref a0_land_waggons, .ref a0_land_parts, .ref a0_land_settings, .ref a0_land_trip, .int 0])), (a0_land_counts, .inl (E 0, 4, .inl (fun _ => 0))), (a0_land_settings, .inl (E 0, 3, .inl (upd (upd (fun _ => 0) 0 100) 1 2))), (a0_countsBefore, .inl (E 0, 4, .inl (va_cpy (fun _ => 0) (fun _ => 0) 0 0 4))), (a0_settingsBefore, .inl (E 0, 3, .inl (fun _ => 0)))] := hD
  refine lv_aload_n hx hb dX2_read_21 rfl (lv_at hl 0 rfl) ?_
  refine va_get (D := D) (ci := 2) (v := .ref a0_land) (C := RX2) (T := TX2) (N := 4) hx hb htg ig_2 hown hK hP 0 rfl rfl 1 (by decide) (htg _ q_246) (fun _ h9 => h9) rfl dX2_read_22 ?_
  refine va_get (D := D) (ci := 0) (v := .ref a0_land_settings) (C := RX0) (T := TX0) (N := 8) hx hb htg ig_0 hown hK hP 2 rfl rfl 5 (by decide) (htg _ q_107) (fun _ h9 => h9) rfl dX2_read_25 ?_
  refine lv_iconst (v := 0) hx hb dX2_read_28 (by decide) ?_
  refine lv_aload_n hx hb dX2_read_29 rfl (lv_at hl 0 rfl) ?_
  refine va_get (D := D) (ci := 2) (v := .ref a0_settingsBefore) (C := RX2) (T := TX2) (N := 4) hx hb htg ig_2 hown hK hP 0 rfl rfl 3 (by decide) (htg _ q_248) (fun _ h9 => h9) rfl dX2_read_30 ?_
  refine lv_iconst (v := 0) hx hb dX2_read_33 (by decide) ?_
  refine lv_aload_n hx hb dX2_read_34 rfl (lv_at hl 0 rfl) ?_
  refine va_get (D := D) (ci := 2) (v := .ref a0_settingsBefore) (C := RX2) (T := TX2) (N := 4) hx hb htg ig_2 hown hK hP 0 rfl rfl 3 (by decide) (htg _ q_248) (fun _ h9 => h9) rfl dX2_read_35 ?_
  refine va_alen (v := 3) hx hb hK hP 6 0 rfl rfl (by decide) dX2_read_38 ?_
  refine va_copyi (ty := .int) hx hb (by rw [hml]; exact hl.1.symm) hown (htg _ q_503) (htg _ q_347) (htg _ q_346) (htg _ q_74) hK hP hD hS 4 6 0 0 rfl rfl rfl rfl rfl (by decide) (by decide) (by decide) (by decide) (by decide) (fun _ _ => rfl) (Nat.le_of_ble_eq_true rfl) (Nat.le_of_ble_eq_true rfl) dX2_read_39 (fun H locs hP hD hS => ?_)
  have hP : va_P D vwCl [(a0, .inr (2, [.ref a0_tape, .ref a0_land, .ref a0_countsBefore, .ref a0_settingsBefore])), (a0_tape, .inr (4, [.ref a0_tape_bytes, .int 0, .int (-1), .int 0, .int 0, .int 0])), (a0_land, .inr (0, [.ref a0_land_counts, .ref a0_land_roads, .ref a0_land_bridges, .ref a0_land_waggons, .ref a0_land_parts, .ref a0_land_settings, .ref a0_land_trip, .int 0])), (a0_land_counts, .inl (E 0, 4, .inl (fun _ => 0))), (a0_land_settings, .inl (E 0, 3, .inl (upd (upd (fun _ => 0) 0 100) 1 2))), (a0_countsBefore, .inl (E 0, 4, .inl (va_cpy (fun _ => 0) (fun _ => 0) 0 0 4))), (a0_settingsBefore, .inl (E 0, 3, .inl (va_cpy (upd (upd (fun _ => 0) 0 100) 1 2) (fun _ => 0) 0 0 3)))] H := hP
  have hD : va_D A [(a0, .inr (2, [.ref a0_tape, .ref a0_land, .ref a0_countsBefore, .ref a0_settingsBefore])), (a0_tape, .inr (4, [.ref a0_tape_bytes, .int 0, .int (-1), .int 0, .int 0, .int 0])), (a0_land, .inr (0, [.ref a0_land_counts, .ref a0_land_roads, .ref a0_land_bridges, .ref a0_land_waggons, .ref a0_land_parts, .ref a0_land_settings, .ref a0_land_trip, .int 0])), (a0_land_counts, .inl (E 0, 4, .inl (fun _ => 0))), (a0_land_settings, .inl (E 0, 3, .inl (upd (upd (fun _ => 0) 0 100) 1 2))), (a0_countsBefore, .inl (E 0, 4, .inl (va_cpy (fun _ => 0) (fun _ => 0) 0 0 4))), (a0_settingsBefore, .inl (E 0, 3, .inl (va_cpy (upd (upd (fun _ => 0) 0 100) 1 2) (fun _ => 0) 0 0 3)))] := hD
  refine lv_aload_n hx hb dX2_read_42 rfl (lv_at hl 0 rfl) ?_
  refine va_get (D := D) (ci := 2) (v := .ref a0_tape) (C := RX2) (T := TX2) (N := 4) hx hb htg ig_2 hown hK hP 0 rfl rfl 0 (by decide) (htg _ q_245) (fun _ h9 => h9) rfl dX2_read_43 ?_
  refine oh_mVv (As := []) (rest := []) (wr := [(a0, .inr (2, [.ref a0_tape, .ref a0_land, .ref a0_countsBefore, .ref a0_settingsBefore])), (a0_land, .inr (0, [.ref a0_land_counts, .ref a0_land_roads, .ref a0_land_bridges, .ref a0_land_waggons, .ref a0_land_parts, .ref a0_land_settings, .ref a0_land_trip, .int 0])), (a0_land_counts, .inl (E 0, 4, .inl (fun _ => 0))), (a0_land_settings, .inl (E 0, 3, .inl (upd (upd (fun _ => 0) 0 100) 1 2))), (a0_countsBefore, .inl (E 0, 4, .inl (va_cpy (fun _ => 0) (fun _ => 0) 0 0 4))), (a0_settingsBefore, .inl (E 0, 3, .inl (va_cpy (upd (upd (fun _ => 0) 0 100) 1 2) (fun _ => 0) 0 0 3)))]) ⟨hx, hb, hml, hown, htg⟩ (c_X4_rewind l D E G H.size a0_tape a0_tape_bytes) (cwV 0 htg (oh_gV q_504 q_505 q_506 q_71 q_507) rfl rfl rfl pdVX4_rewind ⟨Nat.le_of_ble_eq_true rfl, Nat.le_of_ble_eq_true rfl⟩) hK hP hD hG hS hA [1] [0, 2, 3, 4, 5, 6] rfl rfl (by decide) (by decide) (by decide) (va_recv hK hP (ci := 4) (q0 := 1) rfl rfl) rfl hl.1 rfl (Nat.le_of_ble_eq_true rfl) dX2_read_46 ⟨Nat.le_of_ble_eq_true rfl, Nat.le_of_ble_eq_true rfl⟩ (fun u H locs hw hP hD hS => ?_)
  have hP : va_P D vwCl [(a0, .inr (2, [.ref a0_tape, .ref a0_land, .ref a0_countsBefore, .ref a0_settingsBefore])), (a0_land, .inr (0, [.ref a0_land_counts, .ref a0_land_roads, .ref a0_land_bridges, .ref a0_land_waggons, .ref a0_land_parts, .ref a0_land_settings, .ref a0_land_trip, .int 0])), (a0_land_counts, .inl (E 0, 4, .inl (fun _ => 0))), (a0_land_settings, .inl (E 0, 3, .inl (upd (upd (fun _ => 0) 0 100) 1 2))), (a0_countsBefore, .inl (E 0, 4, .inl (va_cpy (fun _ => 0) (fun _ => 0) 0 0 4))), (a0_settingsBefore, .inl (E 0, 3, .inl (va_cpy (upd (upd (fun _ => 0) 0 100) 1 2) (fun _ => 0) 0 0 3))), (a0_tape, .inr (4, [.ref a0_tape_bytes, .int 0, .int (-1), .int 0, .int 0, .int 0]))] H := hP
  have hD : va_D A [(a0, .inr (2, [.ref a0_tape, .ref a0_land, .ref a0_countsBefore, .ref a0_settingsBefore])), (a0_land, .inr (0, [.ref a0_land_counts, .ref a0_land_roads, .ref a0_land_bridges, .ref a0_land_waggons, .ref a0_land_parts, .ref a0_land_settings, .ref a0_land_trip, .int 0])), (a0_land_counts, .inl (E 0, 4, .inl (fun _ => 0))), (a0_land_settings, .inl (E 0, 3, .inl (upd (upd (fun _ => 0) 0 100) 1 2))), (a0_countsBefore, .inl (E 0, 4, .inl (va_cpy (fun _ => 0) (fun _ => 0) 0 0 4))), (a0_settingsBefore, .inl (E 0, 3, .inl (va_cpy (upd (upd (fun _ => 0) 0 100) 1 2) (fun _ => 0) 0 0 3))), (a0_tape, .inr (4, [.ref a0_tape_bytes, .int 0, .int (-1), .int 0, .int 0, .int 0]))] := hD
  refine W.widen (k := 0) (n := 0) (Nat.le_refl _) (Nat.le_refl _) ?_
  refine lv_aload_n hx hb dX2_read_49 rfl (lv_at hl 0 rfl) ?_
  refine oh_mVv (As := []) (rest := []) (wr := [(a0_land, .inr (0, [.ref a0_land_counts, .ref a0_land_roads, .ref a0_land_bridges, .ref a0_land_waggons, .ref a0_land_parts, .ref a0_land_settings, .ref a0_land_trip, .int 0])), (a0_land_counts, .inl (E 0, 4, .inl (fun _ => 0))), (a0_land_settings, .inl (E 0, 3, .inl (upd (upd (fun _ => 0) 0 100) 1 2))), (a0_countsBefore, .inl (E 0, 4, .inl (va_cpy (fun _ => 0) (fun _ => 0) 0 0 4))), (a0_settingsBefore, .inl (E 0, 3, .inl (va_cpy (upd (upd (fun _ => 0) 0 100) 1 2) (fun _ => 0) 0 0 3)))]) ⟨hx, hb, hml, hown, htg⟩ (c_X2_readStatement l D E G H.size a0 a0_tape a0_land a0_countsBefore a0_settingsBefore a0_tape_bytes) (cwV 0 htg (oh_gV q_512 q_514 q_6 q_72 q_515) rfl rfl rfl pdVX2_readStatement ⟨Nat.le_of_ble_eq_true rfl, Nat.le_of_ble_eq_true rfl⟩) hK hP hD hG hS hA [0, 6] [1, 2, 3, 4, 5] rfl rfl (by decide) (by decide) (by decide) (va_recv hK hP (ci := 2) (q0 := 0) rfl rfl) rfl hl.1 rfl (Nat.le_of_ble_eq_true rfl) dX2_read_50 ⟨Nat.le_of_ble_eq_true rfl, Nat.le_of_ble_eq_true rfl⟩ (fun u H locs hw hP hD hS => ?_)
  have hP : va_P D vwCl [(a0_land, .inr (0, [.ref a0_land_counts, .ref a0_land_roads, .ref a0_land_bridges, .ref a0_land_waggons, .ref a0_land_parts, .ref a0_land_settings, .ref a0_land_trip, .int 0])), (a0_land_counts, .inl (E 0, 4, .inl (fun _ => 0))), (a0_land_settings, .inl (E 0, 3, .inl (upd (upd (fun _ => 0) 0 100) 1 2))), (a0_countsBefore, .inl (E 0, 4, .inl (va_cpy (fun _ => 0) (fun _ => 0) 0 0 4))), (a0_settingsBefore, .inl (E 0, 3, .inl (va_cpy (upd (upd (fun _ => 0) 0 100) 1 2) (fun _ => 0) 0 0 3))), (a0, .inr (2, [.ref a0_tape, .ref a0_land, .ref a0_countsBefore, .ref a0_settingsBefore])), (a0_tape, .inr (4, [.ref a0_tape_bytes, .int 0, .int 0, .int 0, .int 0, .int 0]))] H := hP
  have hD : va_D A [(a0_land, .inr (0, [.ref a0_land_counts, .ref a0_land_roads, .ref a0_land_bridges, .ref a0_land_waggons, .ref a0_land_parts, .ref a0_land_settings, .ref a0_land_trip, .int 0])), (a0_land_counts, .inl (E 0, 4, .inl (fun _ => 0))), (a0_land_settings, .inl (E 0, 3, .inl (upd (upd (fun _ => 0) 0 100) 1 2))), (a0_countsBefore, .inl (E 0, 4, .inl (va_cpy (fun _ => 0) (fun _ => 0) 0 0 4))), (a0_settingsBefore, .inl (E 0, 3, .inl (va_cpy (upd (upd (fun _ => 0) 0 100) 1 2) (fun _ => 0) 0 0 3))), (a0, .inr (2, [.ref a0_tape, .ref a0_land, .ref a0_countsBefore, .ref a0_settingsBefore])), (a0_tape, .inr (4, [.ref a0_tape_bytes, .int 0, .int 0, .int 0, .int 0, .int 0]))] := hD
  refine W.widen (k := 0) (n := 0) (Nat.le_refl _) (Nat.le_refl _) ?_
  refine lv_iconst (v := 1) hx hb dX2_read_53 (by decide) ?_
  refine lv_istore_n (lv' := [(1, .int 1), (0, .ref a0)]) hx hb dX2_read_54 rfl hl (by decide) rfl (fun ls hl => ?_)
  refine lv_aload_n hx hb dX2_read_55 rfl (lv_at hl 1 rfl) ?_
  refine va_get (D := D) (ci := 2) (v := .ref a0_tape) (C := RX2) (T := TX2) (N := 4) hx hb htg ig_2 hown hK hP 5 rfl rfl 0 (by decide) (htg _ q_245) (fun _ h9 => h9) rfl dX2_read_56 ?_
  refine oh_pV (As := []) (rest := []) (v := 0) ⟨hx, hb, hml, hown, htg⟩ (c_X4_isSound l D E G a0_tape a0_tape_bytes) (cwV 0 htg (oh_gV q_619 q_592 q_593 q_71 q_594) rfl rfl rfl pdVX4_isSound ⟨Nat.le_of_ble_eq_true rfl, Nat.le_of_ble_eq_true rfl⟩) hK (hP.sub (ws' := [(a0_tape, .inr (4, [.ref a0_tape_bytes, .int 0, .int 0, .int 0, .int 0, .int 0]))]) [6] rfl) hG hS (va_recv hK hP (ci := 4) (q0 := 6) rfl rfl) rfl hl.1 rfl (Nat.le_of_ble_eq_true rfl) dX2_read_59 ⟨Nat.le_of_ble_eq_true rfl, Nat.le_of_ble_eq_true rfl⟩ ?_
  refine lv_if_eq (tgt := 99) hx hb dX2_read_62 (by decide) (fun _ => ?_) (fun c => absurd (show (0 : Int32) = 0 from by decide) c)
  refine lv_aload_n hx hb dX2_read_99 rfl (lv_at hl 1 rfl) ?_
  refine va_get (D := D) (ci := 2) (v := .ref a0_tape) (C := RX2) (T := TX2) (N := 4) hx hb htg ig_2 hown hK hP 5 rfl rfl 0 (by decide) (htg _ q_245) (fun _ h9 => h9) rfl dX2_read_100 ?_
  refine oh_pV (As := []) (rest := []) (v := 0) ⟨hx, hb, hml, hown, htg⟩ (c_X4_isSound l D E G a0_tape a0_tape_bytes) (cwV 0 htg (oh_gV q_619 q_592 q_593 q_71 q_594) rfl rfl rfl pdVX4_isSound ⟨Nat.le_of_ble_eq_true rfl, Nat.le_of_ble_eq_true rfl⟩) hK (hP.sub (ws' := [(a0_tape, .inr (4, [.ref a0_tape_bytes, .int 0, .int 0, .int 0, .int 0, .int 0]))]) [6] rfl) hG hS (va_recv hK hP (ci := 4) (q0 := 6) rfl rfl) rfl hl.1 rfl (Nat.le_of_ble_eq_true rfl) dX2_read_103 ⟨Nat.le_of_ble_eq_true rfl, Nat.le_of_ble_eq_true rfl⟩ ?_
  refine lv_if_ne (tgt := 151) hx hb dX2_read_106 (by decide) (fun c => absurd (show (0 : Int32) = 0 from by decide) c) (fun _ => ?_)
  refine lv_aload_n hx hb dX2_read_109 rfl (lv_at hl 1 rfl) ?_
  refine va_get (D := D) (ci := 2) (v := .ref a0_countsBefore) (C := RX2) (T := TX2) (N := 4) hx hb htg ig_2 hown hK hP 5 rfl rfl 2 (by decide) (htg _ q_247) (fun _ h9 => h9) rfl dX2_read_110 ?_
  refine lv_iconst (v := 0) hx hb dX2_read_113 (by decide) ?_
  refine lv_aload_n hx hb dX2_read_114 rfl (lv_at hl 1 rfl) ?_
  refine va_get (D := D) (ci := 2) (v := .ref a0_land) (C := RX2) (T := TX2) (N := 4) hx hb htg ig_2 hown hK hP 5 rfl rfl 1 (by decide) (htg _ q_246) (fun _ h9 => h9) rfl dX2_read_115 ?_
  refine va_get (D := D) (ci := 0) (v := .ref a0_land_counts) (C := RX0) (T := TX0) (N := 8) hx hb htg ig_0 hown hK hP 0 rfl rfl 0 (by decide) (htg _ q_98) (fun _ h9 => h9) rfl dX2_read_118 ?_
  refine lv_iconst (v := 0) hx hb dX2_read_121 (by decide) ?_
  refine lv_aload_n hx hb dX2_read_122 rfl (lv_at hl 1 rfl) ?_
  refine va_get (D := D) (ci := 2) (v := .ref a0_countsBefore) (C := RX2) (T := TX2) (N := 4) hx hb htg ig_2 hown hK hP 5 rfl rfl 2 (by decide) (htg _ q_247) (fun _ h9 => h9) rfl dX2_read_123 ?_
  refine va_alen (v := 4) hx hb hK hP 3 0 rfl rfl (by decide) dX2_read_126 ?_
  refine va_copyi (ty := .int) hx hb (by rw [hml]; exact hl.1.symm) hown (htg _ q_503) (htg _ q_347) (htg _ q_346) (htg _ q_74) hK hP hD hS 3 1 0 0 rfl rfl rfl rfl rfl (by decide) (by decide) (by decide) (by decide) (by decide) (fun _ _ => rfl) (Nat.le_of_ble_eq_true rfl) (Nat.le_of_ble_eq_true rfl) dX2_read_127 (fun H locs hP hD hS => ?_)
  have hP : va_P D vwCl [(a0_land, .inr (0, [.ref a0_land_counts, .ref a0_land_roads, .ref a0_land_bridges, .ref a0_land_waggons, .ref a0_land_parts, .ref a0_land_settings, .ref a0_land_trip, .int 0])), (a0_land_counts, .inl (E 0, 4, .inl (va_cpy (va_cpy (fun _ => 0) (fun _ => 0) 0 0 4) (fun _ => 0) 0 0 4))), (a0_land_settings, .inl (E 0, 3, .inl (upd (upd (fun _ => 0) 0 100) 1 2))), (a0_countsBefore, .inl (E 0, 4, .inl (va_cpy (fun _ => 0) (fun _ => 0) 0 0 4))), (a0_settingsBefore, .inl (E 0, 3, .inl (va_cpy (upd (upd (fun _ => 0) 0 100) 1 2) (fun _ => 0) 0 0 3))), (a0, .inr (2, [.ref a0_tape, .ref a0_land, .ref a0_countsBefore, .ref a0_settingsBefore])), (a0_tape, .inr (4, [.ref a0_tape_bytes, .int 0, .int 0, .int 0, .int 0, .int 0]))] H := hP
  have hD : va_D A [(a0_land, .inr (0, [.ref a0_land_counts, .ref a0_land_roads, .ref a0_land_bridges, .ref a0_land_waggons, .ref a0_land_parts, .ref a0_land_settings, .ref a0_land_trip, .int 0])), (a0_land_counts, .inl (E 0, 4, .inl (va_cpy (va_cpy (fun _ => 0) (fun _ => 0) 0 0 4) (fun _ => 0) 0 0 4))), (a0_land_settings, .inl (E 0, 3, .inl (upd (upd (fun _ => 0) 0 100) 1 2))), (a0_countsBefore, .inl (E 0, 4, .inl (va_cpy (fun _ => 0) (fun _ => 0) 0 0 4))), (a0_settingsBefore, .inl (E 0, 3, .inl (va_cpy (upd (upd (fun _ => 0) 0 100) 1 2) (fun _ => 0) 0 0 3))), (a0, .inr (2, [.ref a0_tape, .ref a0_land, .ref a0_countsBefore, .ref a0_settingsBefore])), (a0_tape, .inr (4, [.ref a0_tape_bytes, .int 0, .int 0, .int 0, .int 0, .int 0]))] := hD
  refine lv_aload_n hx hb dX2_read_130 rfl (lv_at hl 1 rfl) ?_
  refine va_get (D := D) (ci := 2) (v := .ref a0_settingsBefore) (C := RX2) (T := TX2) (N := 4) hx hb htg ig_2 hown hK hP 5 rfl rfl 3 (by decide) (htg _ q_248) (fun _ h9 => h9) rfl dX2_read_131 ?_
  refine lv_iconst (v := 0) hx hb dX2_read_134 (by decide) ?_
  refine lv_aload_n hx hb dX2_read_135 rfl (lv_at hl 1 rfl) ?_
  refine va_get (D := D) (ci := 2) (v := .ref a0_land) (C := RX2) (T := TX2) (N := 4) hx hb htg ig_2 hown hK hP 5 rfl rfl 1 (by decide) (htg _ q_246) (fun _ h9 => h9) rfl dX2_read_136 ?_
  refine va_get (D := D) (ci := 0) (v := .ref a0_land_settings) (C := RX0) (T := TX0) (N := 8) hx hb htg ig_0 hown hK hP 0 rfl rfl 5 (by decide) (htg _ q_107) (fun _ h9 => h9) rfl dX2_read_139 ?_
  refine lv_iconst (v := 0) hx hb dX2_read_142 (by decide) ?_
  refine lv_aload_n hx hb dX2_read_143 rfl (lv_at hl 1 rfl) ?_
  refine va_get (D := D) (ci := 2) (v := .ref a0_settingsBefore) (C := RX2) (T := TX2) (N := 4) hx hb htg ig_2 hown hK hP 5 rfl rfl 3 (by decide) (htg _ q_248) (fun _ h9 => h9) rfl dX2_read_144 ?_
  refine va_alen (v := 3) hx hb hK hP 4 0 rfl rfl (by decide) dX2_read_147 ?_
  refine va_copyi (ty := .int) hx hb (by rw [hml]; exact hl.1.symm) hown (htg _ q_503) (htg _ q_347) (htg _ q_346) (htg _ q_74) hK hP hD hS 4 2 0 0 rfl rfl rfl rfl rfl (by decide) (by decide) (by decide) (by decide) (by decide) (fun _ _ => rfl) (Nat.le_of_ble_eq_true rfl) (Nat.le_of_ble_eq_true rfl) dX2_read_148 (fun H locs hP hD hS => ?_)
  have hP : va_P D vwCl [(a0_land, .inr (0, [.ref a0_land_counts, .ref a0_land_roads, .ref a0_land_bridges, .ref a0_land_waggons, .ref a0_land_parts, .ref a0_land_settings, .ref a0_land_trip, .int 0])), (a0_land_counts, .inl (E 0, 4, .inl (va_cpy (va_cpy (fun _ => 0) (fun _ => 0) 0 0 4) (fun _ => 0) 0 0 4))), (a0_land_settings, .inl (E 0, 3, .inl (va_cpy (va_cpy (upd (upd (fun _ => 0) 0 100) 1 2) (fun _ => 0) 0 0 3) (upd (upd (fun _ => 0) 0 100) 1 2) 0 0 3))), (a0_countsBefore, .inl (E 0, 4, .inl (va_cpy (fun _ => 0) (fun _ => 0) 0 0 4))), (a0_settingsBefore, .inl (E 0, 3, .inl (va_cpy (upd (upd (fun _ => 0) 0 100) 1 2) (fun _ => 0) 0 0 3))), (a0, .inr (2, [.ref a0_tape, .ref a0_land, .ref a0_countsBefore, .ref a0_settingsBefore])), (a0_tape, .inr (4, [.ref a0_tape_bytes, .int 0, .int 0, .int 0, .int 0, .int 0]))] H := hP
  have hD : va_D A [(a0_land, .inr (0, [.ref a0_land_counts, .ref a0_land_roads, .ref a0_land_bridges, .ref a0_land_waggons, .ref a0_land_parts, .ref a0_land_settings, .ref a0_land_trip, .int 0])), (a0_land_counts, .inl (E 0, 4, .inl (va_cpy (va_cpy (fun _ => 0) (fun _ => 0) 0 0 4) (fun _ => 0) 0 0 4))), (a0_land_settings, .inl (E 0, 3, .inl (va_cpy (va_cpy (upd (upd (fun _ => 0) 0 100) 1 2) (fun _ => 0) 0 0 3) (upd (upd (fun _ => 0) 0 100) 1 2) 0 0 3))), (a0_countsBefore, .inl (E 0, 4, .inl (va_cpy (fun _ => 0) (fun _ => 0) 0 0 4))), (a0_settingsBefore, .inl (E 0, 3, .inl (va_cpy (upd (upd (fun _ => 0) 0 100) 1 2) (fun _ => 0) 0 0 3))), (a0, .inr (2, [.ref a0_tape, .ref a0_land, .ref a0_countsBefore, .ref a0_settingsBefore])), (a0_tape, .inr (4, [.ref a0_tape_bytes, .int 0, .int 0, .int 0, .int 0, .int 0]))] := hD
  refine lv_iload_n hx hb dX2_read_151 rfl (lv_at hl 0 rfl) ?_
  refine W.widen (k := 0) (n := 0) (Nat.le_of_ble_eq_true rfl) (Nat.le_of_ble_eq_true rfl) ?_
  exact W.iret (v := 1) hx hb hr (fun t ht hW => ⟨⟨1, (), rfl, rfl, ⟨by rw [ht]; exact hP.sub [6] rfl, hD.sub [6] (by decide) rfl⟩⟩, hS.F ht⟩) hS.2.2 dX2_read_152
set_option maxHeartbeats 4000000 in
set_option maxRecDepth 100000 in
theorem c_X6_land (l : Launch) (D : va_G) (E : Nat → ClassId) (G : Nat → Nat) (sz : Nat) (a0 : Nat) (a0_now : Nat) (a0_kept : Nat) (a0_ways : Nat) (a0_shelves : Nat) (a0_tape : Nat) (a0_reader : Nat) (a0_refusals : Nat) (a0_bestPack : Nat) (a0_tape_bytes : Nat) (a0_now_counts : Nat) (a0_now_roads : Nat) (a0_now_bridges : Nat) (a0_now_waggons : Nat) (a0_now_parts : Nat) (a0_now_settings : Nat) (a0_now_trip : Nat) (a0_reader_countsBefore : Nat) (a0_reader_settingsBefore : Nat) : Met l yX6_land (oh_w yX6_land cX6_land 2 (some .int)) ({ frames := 4, cells := 0, slots := 0, locals := 85 }) (oh_Pm D E G [.ref a0] [(a0, .inr (6, [.ref a0_now, .ref a0_kept, .int 0, .ref a0_ways, .ref a0_shelves, .ref a0_tape, .ref a0_reader, .ref a0_refusals, .ref a0_bestPack])), (a0_tape, .inr (4, [.ref a0_tape_bytes, .int 0, .int (-1), .int 0, .int 0, .int 0])), (a0_now, .inr (0, [.ref a0_now_counts, .ref a0_now_roads, .ref a0_now_bridges, .ref a0_now_waggons, .ref a0_now_parts, .ref a0_now_settings, .ref a0_now_trip, .int 0])), (a0_now_counts, .inl (E 0, 4, .inl (fun _ => 0))), (a0_now_settings, .inl (E 0, 3, .inl (upd (upd (fun _ => 0) 0 100) 1 2))), (a0_reader, .inr (2, [.ref a0_tape, .ref a0_now, .ref a0_reader_countsBefore, .ref a0_reader_settingsBefore])), (a0_reader_countsBefore, .inl (E 0, 4, .inl (fun _ => 0))), (a0_reader_settingsBefore, .inl (E 0, 3, .inl (fun _ => 0))), (a0_refusals, .inl (E 0, 5, .inl (fun _ => 0)))] sz) (va_Qi (fun r (_ : Unit) => r = (-20)) (oh_B D (va_A [(a0, .inr (6, [.ref a0_now, .ref a0_kept, .int 0, .ref a0_ways, .ref a0_shelves, .ref a0_tape, .ref a0_reader, .ref a0_refusals, .ref a0_bestPack])), (a0_tape, .inr (4, [.ref a0_tape_bytes, .int 0, .int (-1), .int 0, .int 0, .int 0])), (a0_now, .inr (0, [.ref a0_now_counts, .ref a0_now_roads, .ref a0_now_bridges, .ref a0_now_waggons, .ref a0_now_parts, .ref a0_now_settings, .ref a0_now_trip, .int 0])), (a0_now_counts, .inl (E 0, 4, .inl (fun _ => 0))), (a0_now_settings, .inl (E 0, 3, .inl (upd (upd (fun _ => 0) 0 100) 1 2))), (a0_reader, .inr (2, [.ref a0_tape, .ref a0_now, .ref a0_reader_countsBefore, .ref a0_reader_settingsBefore])), (a0_reader_countsBefore, .inl (E 0, 4, .inl (fun _ => 0))), (a0_reader_settingsBefore, .inl (E 0, 3, .inl (fun _ => 0))), (a0_refusals, .inl (E 0, 5, .inl (fun _ => 0)))] sz) (fun _ => [])) (va_A [(a0, .inr (6, [.ref a0_now, .ref a0_kept, .int 0, .ref a0_ways, .ref a0_shelves, .ref a0_tape, .ref a0_reader, .ref a0_refusals, .ref a0_bestPack])), (a0_tape, .inr (4, [.ref a0_tape_bytes, .int 0, .int (-1), .int 0, .int 0, .int 0])), (a0_now, .inr (0, [.ref a0_now_counts, .ref a0_now_roads, .ref a0_now_bridges, .ref a0_now_waggons, .ref a0_now_parts, .ref a0_now_settings, .ref a0_now_trip, .int 0])), (a0_now_counts, .inl (E 0, 4, .inl (fun _ => 0))), (a0_now_settings, .inl (E 0, 3, .inl (upd (upd (fun _ => 0) 0 100) 1 2))), (a0_reader, .inr (2, [.ref a0_tape, .ref a0_now, .ref a0_reader_countsBefore, .ref a0_reader_settingsBefore])), (a0_reader_countsBefore, .inl (E 0, 4, .inl (fun _ => 0))), (a0_reader_settingsBefore, .inl (E 0, 3, .inl (fun _ => 0))), (a0_refusals, .inl (E 0, 5, .inl (fun _ => 0)))] sz)) 0 0 (va_A [(a0, .inr (6, [.ref a0_now, .ref a0_kept, .int 0, .ref a0_ways, .ref a0_shelves, .ref a0_tape, .ref a0_reader, .ref a0_refusals, .ref a0_bestPack])), (a0_tape, .inr (4, [.ref a0_tape_bytes, .int 0, .int (-1), .int 0, .int 0, .int 0])), (a0_now, .inr (0, [.ref a0_now_counts, .ref a0_now_roads, .ref a0_now_bridges, .ref a0_now_waggons, .ref a0_now_parts, .ref a0_now_settings, .ref a0_now_trip, .int 0])), (a0_now_counts, .inl (E 0, 4, .inl (fun _ => 0))), (a0_now_settings, .inl (E 0, 3, .inl (upd (upd (fun _ => 0) 0 100) 1 2))), (a0_reader, .inr (2, [.ref a0_tape, .ref a0_now, .ref a0_reader_countsBefore, .ref a0_reader_settingsBefore])), (a0_reader_countsBefore, .inl (E 0, 4, .inl (fun _ => 0))), (a0_reader_settingsBefore, .inl (E 0, 3, .inl (fun _ => 0))), (a0_refusals, .inl (E 0, 5, .inl (fun _ => 0)))] sz) := by
  refine Met.ofW (cc := cX6_land) (maxL := 2) (ret := (some .int)) (by decide) rfl ?_
  intro p e s m args below meth c s₁ B hml hv
  obtain ⟨rfl, hsz, hP, hK, hD0, hG⟩ := hv
  have hx := B.exec
  have hb := B.bytes
  have hr := B.returns
  have hts := atoms_spec (ws := (oh_w yX6_land cX6_land 2 (some .int))) B.pre
  have htg : ∀ w ∈ oh_t, w.before _ s = true := fun w h => hts w (List.mem_cons_of_mem _ h)
  have hown : s.vm.findClass RX6 = some m.cls := findClass_of_methodNamed B.named
  have hlocks := B.notSynchronized
  subst hsz
  have hD := hD0.self (sz := s.heap.size)
  generalize hAe : va_A [(a0, .inr (6, [.ref a0_now, .ref a0_kept, .int 0, .ref a0_ways, .ref a0_shelves, .ref a0_tape, .ref a0_reader, .ref a0_refusals, .ref a0_bestPack])), (a0_tape, .inr (4, [.ref a0_tape_bytes, .int 0, .int (-1), .int 0, .int 0, .int 0])), (a0_now, .inr (0, [.ref a0_now_counts, .ref a0_now_roads, .ref a0_now_bridges, .ref a0_now_waggons, .ref a0_now_parts, .ref a0_now_settings, .ref a0_now_trip, .int 0])), (a0_now_counts, .inl (E 0, 4, .inl (fun _ => 0))), (a0_now_settings, .inl (E 0, 3, .inl (upd (upd (fun _ => 0) 0 100) 1 2))), (a0_reader, .inr (2, [.ref a0_tape, .ref a0_now, .ref a0_reader_countsBefore, .ref a0_reader_settingsBefore])), (a0_reader_countsBefore, .inl (E 0, 4, .inl (fun _ => 0))), (a0_reader_settingsBefore, .inl (E 0, 3, .inl (fun _ => 0))), (a0_refusals, .inl (E 0, 5, .inl (fun _ => 0)))] s.heap.size = A at hD hG ⊢
  have hA : ∀ q : Nat, s.heap.size ≤ q → A q := fun q h => by rw [← hAe]; exact Or.inr h
  have hS : va_S A s.heap s.heap [] := va_S.rf
  have hP : va_P D vwCl [(a0, .inr (6, [.ref a0_now, .ref a0_kept, .int 0, .ref a0_ways, .ref a0_shelves, .ref a0_tape, .ref a0_reader, .ref a0_refusals, .ref a0_bestPack])), (a0_tape, .inr (4, [.ref a0_tape_bytes, .int 0, .int (-1), .int 0, .int 0, .int 0])), (a0_now, .inr (0, [.ref a0_now_counts, .ref a0_now_roads, .ref a0_now_bridges, .ref a0_now_waggons, .ref a0_now_parts, .ref a0_now_settings, .ref a0_now_trip, .int 0])), (a0_now_counts, .inl (E 0, 4, .inl (fun _ => 0))), (a0_now_settings, .inl (E 0, 3, .inl (upd (upd (fun _ => 0) 0 100) 1 2))), (a0_reader, .inr (2, [.ref a0_tape, .ref a0_now, .ref a0_reader_countsBefore, .ref a0_reader_settingsBefore])), (a0_reader_countsBefore, .inl (E 0, 4, .inl (fun _ => 0))), (a0_reader_settingsBefore, .inl (E 0, 3, .inl (fun _ => 0))), (a0_refusals, .inl (E 0, 5, .inl (fun _ => 0)))] s.heap := hP
  have hl := lv_entry ([.ref a0]) (n := 2) (Nat.le_of_ble_eq_true rfl)
  rw [lg_entry_eq]
  generalize (lg_sl ([.ref a0]) ++ List.replicate (2 - (lg_sl ([.ref a0])).length) Slot.unset).toArray = ls at hl ⊢
  have hl : lv_has ls 2 [(0, .ref a0)] := hl
  refine lv_aload_n hx hb dX6_land_0 rfl (lv_at hl 0 rfl) ?_
  refine va_get (D := D) (ci := 6) (v := .ref a0_reader) (C := RX6) (T := TX6) (N := 9) hx hb htg ig_6 hown hK hP 0 rfl rfl 6 (by decide) (htg _ q_264) (fun _ h9 => h9) rfl dX6_land_1 ?_
  refine oh_mV (As := []) (rest := []) (wr := [(a0, .inr (6, [.ref a0_now, .ref a0_kept, .int 0, .ref a0_ways, .ref a0_shelves, .ref a0_tape, .ref a0_reader, .ref a0_refusals, .ref a0_bestPack])), (a0_refusals, .inl (E 0, 5, .inl (fun _ => 0)))]) ⟨hx, hb, hml, hown, htg⟩ (c_X2_read l D E G s.heap.size a0_reader a0_tape a0_now a0_reader_countsBefore a0_reader_settingsBefore a0_tape_bytes a0_now_counts a0_now_roads a0_now_bridges a0_now_waggons a0_now_parts a0_now_settings a0_now_trip) (cwV 0 htg (oh_gV q_499 q_500 q_501 q_72 q_502) rfl rfl rfl pdVX2_read ⟨Nat.le_of_ble_eq_true rfl, Nat.le_of_ble_eq_true rfl⟩) hK hP hD hG hS hA [5, 1, 2, 3, 4, 6, 7] [0, 8] rfl rfl (by decide) (by decide) (by decide) (va_recv hK hP (ci := 2) (q0 := 5) rfl rfl) rfl hl.1 rfl (Nat.le_of_ble_eq_true rfl) dX6_land_4 ⟨Nat.le_of_ble_eq_true rfl, Nat.le_of_ble_eq_true rfl⟩ (fun r_1 u H locs hw hP hD hS => ?_)
  subst hw
  have hP : va_P D vwCl [(a0, .inr (6, [.ref a0_now, .ref a0_kept, .int 0, .ref a0_ways, .ref a0_shelves, .ref a0_tape, .ref a0_reader, .ref a0_refusals, .ref a0_bestPack])), (a0_refusals, .inl (E 0, 5, .inl (fun _ => 0))), (a0_tape, .inr (4, [.ref a0_tape_bytes, .int 0, .int 0, .int 0, .int 0, .int 0]))] H := hP
  have hD : va_D A [(a0, .inr (6, [.ref a0_now, .ref a0_kept, .int 0, .ref a0_ways, .ref a0_shelves, .ref a0_tape, .ref a0_reader, .ref a0_refusals, .ref a0_bestPack])), (a0_refusals, .inl (E 0, 5, .inl (fun _ => 0))), (a0_tape, .inr (4, [.ref a0_tape_bytes, .int 0, .int 0, .int 0, .int 0, .int 0]))] := hD
  refine W.widen (k := 0) (n := 0) (Nat.le_refl _) (Nat.le_refl _) ?_
  refine lv_istore_n (lv' := [(1, .int 1), (0, .ref a0)]) hx hb dX6_land_7 rfl hl (by decide) rfl (fun ls hl => ?_)
  refine lv_aload_n hx hb dX6_land_8 rfl (lv_at hl 1 rfl) ?_
  refine va_get (D := D) (ci := 6) (v := .ref a0_tape) (C := RX6) (T := TX6) (N := 9) hx hb htg ig_6 hown hK hP 0 rfl rfl 5 (by decide) (htg _ q_263) (fun _ h9 => h9) rfl dX6_land_9 ?_
  refine lv_iconst (v := 0) hx hb dX6_land_12 (by decide) ?_
  refine va_put (D := D) (ci := 4) (v := .int 0) (ty := .int) (C := RX4) (T := TX4) (N := 6) hx hb htg ig_4 tyX4 tyX4_ok nmX4 hown hK hP hD hS 2 rfl rfl 1 (by decide) (htg _ q_219) (fun _ h9 => h9) rfl (by decide +kernel) rfl rfl (Nat.le_of_ble_eq_true rfl) dX6_land_13 (fun H locs hP hD hS => ?_)
  have hP : va_P D vwCl [(a0, .inr (6, [.ref a0_now, .ref a0_kept, .int 0, .ref a0_ways, .ref a0_shelves, .ref a0_tape, .ref a0_reader, .ref a0_refusals, .ref a0_bestPack])), (a0_refusals, .inl (E 0, 5, .inl (fun _ => 0))), (a0_tape, .inr (4, [.ref a0_tape_bytes, .int 0, .int 0, .int 0, .int 0, .int 0]))] H := hP
  have hD : va_D A [(a0, .inr (6, [.ref a0_now, .ref a0_kept, .int 0, .ref a0_ways, .ref a0_shelves, .ref a0_tape, .ref a0_reader, .ref a0_refusals, .ref a0_bestPack])), (a0_refusals, .inl (E 0, 5, .inl (fun _ => 0))), (a0_tape, .inr (4, [.ref a0_tape_bytes, .int 0, .int 0, .int 0, .int 0, .int 0]))] := hD
  refine lv_aload_n hx hb dX6_land_16 rfl (lv_at hl 1 rfl) ?_
  refine va_get (D := D) (ci := 6) (v := .ref a0_tape) (C := RX6) (T := TX6) (N := 9) hx hb htg ig_6 hown hK hP 0 rfl rfl 5 (by decide) (htg _ q_263) (fun _ h9 => h9) rfl dX6_land_17 ?_
  refine va_get (D := D) (ci := 4) (v := .int 0) (C := RX4) (T := TX4) (N := 6) hx hb htg ig_4 hown hK hP 2 rfl rfl 2 (by decide) (htg _ q_221) (fun _ h9 => h9) rfl dX6_land_20 ?_
  refine lv_iconst (v := (-1)) hx hb dX6_land_23 (by decide) ?_
  refine lv_icmp_eq (tgt := 45) hx hb dX6_land_24 (by decide) (fun c => absurd c (show ¬ ((0 : Int32) = (-1)) from by decide)) (fun _ => ?_)
  refine lv_aload_n hx hb dX6_land_27 rfl (lv_at hl 1 rfl) ?_
  refine lv_bipush (v := (-2)) hx hb dX6_land_28 (by decide) ?_
  refine oh_mV (As := [.int (-2)]) (rest := []) (wr := [(a0_tape, .inr (4, [.ref a0_tape_bytes, .int 0, .int 0, .int 0, .int 0, .int 0]))]) ⟨hx, hb, hml, hown, htg⟩ (c_X6_refuse l D E G H.size a0 (-2) a0_now a0_kept a0_ways a0_shelves a0_tape a0_reader a0_refusals a0_bestPack) (cwV 1 htg (oh_gV q_296 q_298 q_0 q_66 q_299) rfl rfl rfl pdVX6_refuse ⟨Nat.le_of_ble_eq_true rfl, Nat.le_of_ble_eq_true rfl⟩) hK hP hD hG hS hA [0, 1] [2] rfl rfl (by decide) (by decide) (by decide) (va_recv hK hP (ci := 6) (q0 := 0) rfl rfl) rfl hl.1 rfl (Nat.le_of_ble_eq_true rfl) dX6_land_30 ⟨Nat.le_of_ble_eq_true rfl, Nat.le_of_ble_eq_true rfl⟩ (fun r_2 u H locs hw hP hD hS => ?_)
  subst hw
  have hP : va_P D vwCl [(a0_tape, .inr (4, [.ref a0_tape_bytes, .int 0, .int 0, .int 0, .int 0, .int 0])), (a0, .inr (6, [.ref a0_now, .ref a0_kept, .int 0, .ref a0_ways, .ref a0_shelves, .ref a0_tape, .ref a0_reader, .ref a0_refusals, .ref a0_bestPack]))] H := hP
  have hD : va_D A [(a0_tape, .inr (4, [.ref a0_tape_bytes, .int 0, .int 0, .int 0, .int 0, .int 0])), (a0, .inr (6, [.ref a0_now, .ref a0_kept, .int 0, .ref a0_ways, .ref a0_shelves, .ref a0_tape, .ref a0_reader, .ref a0_refusals, .ref a0_bestPack]))] := hD
  refine W.widen (k := 0) (n := 0) (Nat.le_refl _) (Nat.le_refl _) ?_
  refine lv_pop hx hb dX6_land_33 rfl ?_
  refine lv_bipush (v := (-20)) hx hb dX6_land_34 (by decide) ?_
  refine lv_aload_n hx hb dX6_land_36 rfl (lv_at hl 1 rfl) ?_
  refine va_get (D := D) (ci := 6) (v := .ref a0_tape) (C := RX6) (T := TX6) (N := 9) hx hb htg ig_6 hown hK hP 1 rfl rfl 5 (by decide) (htg _ q_263) (fun _ h9 => h9) rfl dX6_land_37 ?_
  refine va_get (D := D) (ci := 4) (v := .int 0) (C := RX4) (T := TX4) (N := 6) hx hb htg ig_4 hown hK hP 0 rfl rfl 2 (by decide) (htg _ q_221) (fun _ h9 => h9) rfl dX6_land_40 ?_
  refine lv_isub hx hb dX6_land_43 ?_
  refine oh_nrm (v := (-20)) (by decide) ?_
  refine W.widen (k := 0) (n := 0) (Nat.le_of_ble_eq_true rfl) (Nat.le_of_ble_eq_true rfl) ?_
  exact W.iret (v := (-20)) hx hb hr (fun t ht hW => ⟨⟨(-20), (), rfl, rfl, ⟨by rw [ht]; exact hP.sub [] rfl, hD.sub [] (by decide) rfl⟩⟩, hS.F ht⟩) hS.2.2 dX6_land_44
