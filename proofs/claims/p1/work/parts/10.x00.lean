def fX6_within (v_v : Int32) (v_a : Int32) (v_b : Int32) : Int32 :=
  if v_v < v_a then 0 else if v_b < v_v then 0 else 1
theorem fX6_within_b (v_v : Int32) (v_a : Int32) (v_b : Int32) : fX6_within v_v v_a v_b = 0 ∨ fX6_within v_v v_a v_b = 1 := by
  unfold fX6_within
  repeat' split
  all_goals first | exact Or.inl rfl | exact Or.inr rfl
set_option maxHeartbeats 4000000 in
set_option maxRecDepth 100000 in
/-- within(v, least, most) -/
theorem c_X6_within (l : Launch) (D : va_G) (E : Nat → ClassId) (G : Nat → Nat) (v_v : Int32) (v_a : Int32) (v_b : Int32) : Met l yX6_within (oh_w yX6_within cX6_within 3 (some .boolean)) ({ frames := 0, cells := 0, slots := 0, locals := 0 }) (oh_Pp D E G [.int v_v, .int v_a, .int v_b] []) (vp_Si (fun r => r = fX6_within v_v v_a v_b)) 0 0 (fun _ => False) := by
  refine Met.ofW (cc := cX6_within) (maxL := 3) (ret := (some .boolean)) (by decide) rfl ?_
  intro p e s m args below meth c s₁ B hml hv
  obtain ⟨rfl, hP, hK, hG⟩ := hv
  have hx := B.exec
  have hb := B.bytes
  have hr := B.returns
  have hts := atoms_spec (ws := (oh_w yX6_within cX6_within 3 (some .boolean))) B.pre
  have htg : ∀ w ∈ oh_t, w.before _ s = true := fun w h => hts w (List.mem_cons_of_mem _ h)
  have hown : s.vm.findClass RX6 = some m.cls := findClass_of_methodNamed B.named
  have hlocks := B.notSynchronized
  have hS : va_S (fun _ => False) s.heap s.heap [] := va_S.rf
  have hl := lv_entry ([.int v_v, .int v_a, .int v_b]) (n := 3) (Nat.le_of_ble_eq_true rfl)
  rw [lg_entry_eq]
  generalize (lg_sl ([.int v_v, .int v_a, .int v_b]) ++ List.replicate (3 - (lg_sl ([.int v_v, .int v_a, .int v_b])).length) Slot.unset).toArray = ls at hl ⊢
  have hl : lv_has ls 3 [(0, .int v_v), (1, .int v_a), (2, .int v_b)] := hl
  refine lv_iload_n hx hb dX6_within_0 rfl (lv_at hl 0 rfl) ?_
  refine lv_iload_n hx hb dX6_within_1 rfl (lv_at hl 1 rfl) ?_
  refine lv_icmp_lt (tgt := 14) hx hb dX6_within_2 (by decide) (fun (c_1 : v_v < v_a) => ?_) (fun (c_1 : ¬ (v_v < v_a)) => ?_)
  · refine lv_iconst (v := 0) hx hb dX6_within_14 (by decide) ?_
    exact W.zret (v := 0) (ty := .boolean) hx hb hr (by decide) (fun t ht hW => ⟨0, rfl, by unfold fX6_within; rw [if_pos c_1], ht⟩) (fun q h => by cases h) dX6_within_15
  · refine lv_iload_n hx hb dX6_within_5 rfl (lv_at hl 0 rfl) ?_
    refine lv_iload_n hx hb dX6_within_6 rfl (lv_at hl 2 rfl) ?_
    refine lv_icmp_gt (tgt := 14) hx hb dX6_within_7 (by decide) (fun (c_2 : v_b < v_v) => ?_) (fun (c_2 : ¬ (v_b < v_v)) => ?_)
    · refine lv_iconst (v := 0) hx hb dX6_within_14 (by decide) ?_
      exact W.zret (v := 0) (ty := .boolean) hx hb hr (by decide) (fun t ht hW => ⟨0, rfl, by unfold fX6_within; rw [if_neg c_1, if_pos c_2], ht⟩) (fun q h => by cases h) dX6_within_15
    · refine lv_iconst (v := 1) hx hb dX6_within_10 (by decide) ?_
      refine lv_goto (tgt := 15) hx hb dX6_within_11 (by decide) ?_
      exact W.zret (v := 1) (ty := .boolean) hx hb hr (by decide) (fun t ht hW => ⟨1, rfl, by unfold fX6_within; rw [if_neg c_1, if_neg c_2], ht⟩) (fun q h => by cases h) dX6_within_15
theorem oh_nb {v : Int32} (h : v = 0 ∨ v = 1) : narrow .boolean (.int v) = .int v := by
  rcases h with rfl | rfl <;> rfl
theorem oh_win {v k : Int32} {n : Nat} (h : ¬ fX6_within v 0 k = 0) (hk : k.toInt + 1 = n) : vp_in v n := by
  rw [vp_in_iff]
  unfold fX6_within at h
  by_cases h1 : v < 0
  · exact absurd (if_pos h1) h
  · rw [if_neg h1] at h
    by_cases h2 : k < v
    · exact absurd (if_pos h2) h
    · rw [Int32.lt_iff_toInt_lt] at h1 h2
      have h0 : (0 : Int32).toInt = 0 := by decide
      omega
theorem oh_none (v : Int32) : fX6_within v 0 ((0 : Int32) - 1) = 0 := by
  unfold fX6_within
  by_cases h1 : v < 0
  · rw [if_pos h1]
  · rw [if_neg h1]
    have h2 : (0 - 1 : Int32) < v := by
      rw [Int32.lt_iff_toInt_lt] at h1 ⊢
      have h0 : (0 : Int32).toInt = 0 := by decide
      have h3 : (0 - 1 : Int32).toInt = -1 := by decide
      omega
    rw [if_pos h2]
set_option maxHeartbeats 4000000 in
set_option maxRecDepth 100000 in
theorem c_X6_isPlace (l : Launch) (D : va_G) (E : Nat → ClassId) (G : Nat → Nat) (v_p : Int32) : Met l yX6_isPlace (oh_w yX6_isPlace cX6_isPlace 1 (some .boolean)) ({ frames := 1, cells := 0, slots := 0, locals := 22 }) (oh_Pp D E G [.int v_p] []) (vp_Si (fun r => r = fX6_within v_p 0 15)) 0 0 (fun _ => False) := by
  refine Met.ofW (cc := cX6_isPlace) (maxL := 1) (ret := (some .boolean)) (by decide) rfl ?_
  intro p e s m args below meth c s₁ B hml hv
  obtain ⟨rfl, hP, hK, hG⟩ := hv
  have hx := B.exec
  have hb := B.bytes
  have hr := B.returns
  have hts := atoms_spec (ws := (oh_w yX6_isPlace cX6_isPlace 1 (some .boolean))) B.pre
  have htg : ∀ w ∈ oh_t, w.before _ s = true := fun w h => hts w (List.mem_cons_of_mem _ h)
  have hown : s.vm.findClass RX6 = some m.cls := findClass_of_methodNamed B.named
  have hlocks := B.notSynchronized
  have hS : va_S (fun _ => False) s.heap s.heap [] := va_S.rf
  have hl := lv_entry ([.int v_p]) (n := 1) (Nat.le_of_ble_eq_true rfl)
  rw [lg_entry_eq]
  generalize (lg_sl ([.int v_p]) ++ List.replicate (1 - (lg_sl ([.int v_p])).length) Slot.unset).toArray = ls at hl ⊢
  have hl : lv_has ls 1 [(0, .int v_p)] := hl
  refine lv_iload_n hx hb dX6_isPlace_0 rfl (lv_at hl 0 rfl) ?_
  refine lv_iconst (v := 0) hx hb dX6_isPlace_1 (by decide) ?_
  refine lv_bipush (v := 15) hx hb dX6_isPlace_2 (by decide) ?_
  refine oh_pS (As := [.int v_p, .int 0, .int 15]) (rest := []) (v := fX6_within v_p 0 15) ⟨hx, hb, hml, hown, htg⟩ (c_X6_within l D E G v_p 0 15) (va_cwS 3 htg (oh_gS q_293 q_294 q_66 q_295) rfl rfl rfl pdX6_within ⟨Nat.le_of_ble_eq_true rfl, Nat.le_of_ble_eq_true rfl⟩) hK (hP.sub (ws' := []) [] rfl) hG hS rfl hl.1 rfl (Nat.le_of_ble_eq_true rfl) dX6_isPlace_4 ⟨Nat.le_of_ble_eq_true rfl, Nat.le_of_ble_eq_true rfl⟩ ?_
  exact W.zret (v := fX6_within v_p 0 15) (ty := .boolean) hx hb hr (oh_nb (fX6_within_b v_p 0 15)) (fun t ht hW => ⟨fX6_within v_p 0 15, rfl, rfl, ht⟩) (fun q h => by cases h) dX6_isPlace_7
set_option maxHeartbeats 4000000 in
set_option maxRecDepth 100000 in
theorem c_X6_isShelf (l : Launch) (D : va_G) (E : Nat → ClassId) (G : Nat → Nat) (v_s : Int32) : Met l yX6_isShelf (oh_w yX6_isShelf cX6_isShelf 1 (some .boolean)) ({ frames := 1, cells := 0, slots := 0, locals := 22 }) (oh_Pp D E G [.int v_s] []) (vp_Si (fun r => r = fX6_within v_s 0 7)) 0 0 (fun _ => False) := by
  refine Met.ofW (cc := cX6_isShelf) (maxL := 1) (ret := (some .boolean)) (by decide) rfl ?_
  intro p e s m args below meth c s₁ B hml hv
  obtain ⟨rfl, hP, hK, hG⟩ := hv
  have hx := B.exec
  have hb := B.bytes
  have hr := B.returns
  have hts := atoms_spec (ws := (oh_w yX6_isShelf cX6_isShelf 1 (some .boolean))) B.pre
  have htg : ∀ w ∈ oh_t, w.before _ s = true := fun w h => hts w (List.mem_cons_of_mem _ h)
  have hown : s.vm.findClass RX6 = some m.cls := findClass_of_methodNamed B.named
  have hlocks := B.notSynchronized
  have hS : va_S (fun _ => False) s.heap s.heap [] := va_S.rf
  have hl := lv_entry ([.int v_s]) (n := 1) (Nat.le_of_ble_eq_true rfl)
  rw [lg_entry_eq]
  generalize (lg_sl ([.int v_s]) ++ List.replicate (1 - (lg_sl ([.int v_s])).length) Slot.unset).toArray = ls at hl ⊢
  have hl : lv_has ls 1 [(0, .int v_s)] := hl
  refine lv_iload_n hx hb dX6_isShelf_0 rfl (lv_at hl 0 rfl) ?_
  refine lv_iconst (v := 0) hx hb dX6_isShelf_1 (by decide) ?_
  refine lv_bipush (v := 7) hx hb dX6_isShelf_2 (by decide) ?_
  refine oh_pS (As := [.int v_s, .int 0, .int 7]) (rest := []) (v := fX6_within v_s 0 7) ⟨hx, hb, hml, hown, htg⟩ (c_X6_within l D E G v_s 0 7) (va_cwS 3 htg (oh_gS q_293 q_294 q_66 q_295) rfl rfl rfl pdX6_within ⟨Nat.le_of_ble_eq_true rfl, Nat.le_of_ble_eq_true rfl⟩) hK (hP.sub (ws' := []) [] rfl) hG hS rfl hl.1 rfl (Nat.le_of_ble_eq_true rfl) dX6_isShelf_4 ⟨Nat.le_of_ble_eq_true rfl, Nat.le_of_ble_eq_true rfl⟩ ?_
  exact W.zret (v := fX6_within v_s 0 7) (ty := .boolean) hx hb hr (oh_nb (fX6_within_b v_s 0 7)) (fun t ht hW => ⟨fX6_within v_s 0 7, rfl, rfl, ht⟩) (fun q h => by cases h) dX6_isShelf_7
set_option maxHeartbeats 4000000 in
set_option maxRecDepth 100000 in
theorem c_X6_isRoad (l : Launch) (D : va_G) (E : Nat → ClassId) (G : Nat → Nat) (a0 : Nat) (v_r : Int32) (a0_now : Nat) (a0_kept : Nat) (a0_ways : Nat) (a0_shelves : Nat) (a0_tape : Nat) (a0_reader : Nat) (a0_refusals : Nat) (a0_bestPack : Nat) (a0_now_counts : Nat) (a0_now_roads : Nat) (a0_now_bridges : Nat) (a0_now_waggons : Nat) (a0_now_parts : Nat) (a0_now_settings : Nat) (a0_now_trip : Nat) : Met l yX6_isRoad (oh_w yX6_isRoad cX6_isRoad 2 (some .boolean)) ({ frames := 1, cells := 0, slots := 0, locals := 22 }) (oh_Pp D E G [.ref a0, .int v_r] [(a0, .inr (6, [.ref a0_now, .ref a0_kept, .int 0, .ref a0_ways, .ref a0_shelves, .ref a0_tape, .ref a0_reader, .ref a0_refusals, .ref a0_bestPack])), (a0_now, .inr (0, [.ref a0_now_counts, .ref a0_now_roads, .ref a0_now_bridges, .ref a0_now_waggons, .ref a0_now_parts, .ref a0_now_settings, .ref a0_now_trip, .int 0])), (a0_now_counts, .inl (E 0, 4, .inl (fun _ => 0)))]) (vp_Si (fun r => r = fX6_within v_r 0 (-1))) 0 0 (fun _ => False) := by
  refine Met.ofW (cc := cX6_isRoad) (maxL := 2) (ret := (some .boolean)) (by decide) rfl ?_
  intro p e s m args below meth c s₁ B hml hv
  obtain ⟨rfl, hP, hK, hG⟩ := hv
  have hx := B.exec
  have hb := B.bytes
  have hr := B.returns
  have hts := atoms_spec (ws := (oh_w yX6_isRoad cX6_isRoad 2 (some .boolean))) B.pre
  have htg : ∀ w ∈ oh_t, w.before _ s = true := fun w h => hts w (List.mem_cons_of_mem _ h)
  have hown : s.vm.findClass RX6 = some m.cls := findClass_of_methodNamed B.named
  have hlocks := B.notSynchronized
  have hS : va_S (fun _ => False) s.heap s.heap [] := va_S.rf
  have hl := lv_entry ([.ref a0, .int v_r]) (n := 2) (Nat.le_of_ble_eq_true rfl)
  rw [lg_entry_eq]
  generalize (lg_sl ([.ref a0, .int v_r]) ++ List.replicate (2 - (lg_sl ([.ref a0, .int v_r])).length) Slot.unset).toArray = ls at hl ⊢
  have hl : lv_has ls 2 [(0, .ref a0), (1, .int v_r)] := hl
  refine lv_iload_n hx hb dX6_isRoad_0 rfl (lv_at hl 1 rfl) ?_
  refine lv_iconst (v := 0) hx hb dX6_isRoad_1 (by decide) ?_
  refine lv_aload_n hx hb dX6_isRoad_2 rfl (lv_at hl 0 rfl) ?_
  refine va_get (D := D) (ci := 6) (v := .ref a0_now) (C := RX6) (T := TX6) (N := 9) hx hb htg ig_6 hown hK hP 0 rfl rfl 0 (by decide) (htg _ q_258) (fun _ h9 => h9) rfl dX6_isRoad_3 ?_
  refine va_get (D := D) (ci := 0) (v := .ref a0_now_counts) (C := RX0) (T := TX0) (N := 8) hx hb htg ig_0 hown hK hP 1 rfl rfl 0 (by decide) (htg _ q_100) (fun _ h9 => h9) rfl dX6_isRoad_6 ?_
  refine lv_iconst (v := 0) hx hb dX6_isRoad_9 (by decide) ?_
  refine va_iald hx hb hK hP 2 0 rfl rfl (show vp_in 0 4 by unfold vp_in; decide) dX6_isRoad_10 ?_
  refine oh_nrm (v := 0) (by decide) ?_
  refine lv_iconst (v := 1) hx hb dX6_isRoad_11 (by decide) ?_
  refine lv_isub hx hb dX6_isRoad_12 ?_
  refine oh_nrm (v := (-1)) (by decide) ?_
  refine oh_pS (As := [.int v_r, .int 0, .int (-1)]) (rest := []) (v := fX6_within v_r 0 (-1)) ⟨hx, hb, hml, hown, htg⟩ (c_X6_within l D E G v_r 0 (-1)) (va_cwS 3 htg (oh_gS q_293 q_294 q_66 q_295) rfl rfl rfl pdX6_within ⟨Nat.le_of_ble_eq_true rfl, Nat.le_of_ble_eq_true rfl⟩) hK (hP.sub (ws' := []) [] rfl) hG hS rfl hl.1 rfl (Nat.le_of_ble_eq_true rfl) dX6_isRoad_13 ⟨Nat.le_of_ble_eq_true rfl, Nat.le_of_ble_eq_true rfl⟩ ?_
  exact W.zret (v := fX6_within v_r 0 (-1)) (ty := .boolean) hx hb hr (oh_nb (fX6_within_b v_r 0 (-1))) (fun t ht hW => ⟨fX6_within v_r 0 (-1), rfl, rfl, ht⟩) (fun q h => by cases h) dX6_isRoad_16
theorem kk_X6_isRoad (v_r : Int32) : fX6_within v_r 0 (-1) = 0 := by
  exact oh_none v_r
theorem k_X6_isRoad (l : Launch) (D : va_G) (E : Nat → ClassId) (G : Nat → Nat) (a0 : Nat) (v_r : Int32) (a0_now : Nat) (a0_kept : Nat) (a0_ways : Nat) (a0_shelves : Nat) (a0_tape : Nat) (a0_reader : Nat) (a0_refusals : Nat) (a0_bestPack : Nat) (a0_now_counts : Nat) (a0_now_roads : Nat) (a0_now_bridges : Nat) (a0_now_waggons : Nat) (a0_now_parts : Nat) (a0_now_settings : Nat) (a0_now_trip : Nat) : Met l yX6_isRoad (oh_w yX6_isRoad cX6_isRoad 2 (some .boolean)) ({ frames := 1, cells := 0, slots := 0, locals := 22 }) (oh_Pp D E G [.ref a0, .int v_r] [(a0, .inr (6, [.ref a0_now, .ref a0_kept, .int 0, .ref a0_ways, .ref a0_shelves, .ref a0_tape, .ref a0_reader, .ref a0_refusals, .ref a0_bestPack])), (a0_now, .inr (0, [.ref a0_now_counts, .ref a0_now_roads, .ref a0_now_bridges, .ref a0_now_waggons, .ref a0_now_parts, .ref a0_now_settings, .ref a0_now_trip, .int 0])), (a0_now_counts, .inl (E 0, 4, .inl (fun _ => 0)))]) (vp_Si (fun r => r = 0)) 0 0 (fun _ => False) := by
  have h := c_X6_isRoad l D E G a0 v_r a0_now a0_kept a0_ways a0_shelves a0_tape a0_reader a0_refusals a0_bestPack a0_now_counts a0_now_roads a0_now_bridges a0_now_waggons a0_now_parts a0_now_settings a0_now_trip
  rw [kk_X6_isRoad] at h
  exact h
set_option maxHeartbeats 4000000 in
set_option maxRecDepth 100000 in
theorem c_X6_isBridge (l : Launch) (D : va_G) (E : Nat → ClassId) (G : Nat → Nat) (a0 : Nat) (v_r : Int32) (a0_now : Nat) (a0_kept : Nat) (a0_ways : Nat) (a0_shelves : Nat) (a0_tape : Nat) (a0_reader : Nat) (a0_refusals : Nat) (a0_bestPack : Nat) (a0_now_counts : Nat) (a0_now_roads : Nat) (a0_now_bridges : Nat) (a0_now_waggons : Nat) (a0_now_parts : Nat) (a0_now_settings : Nat) (a0_now_trip : Nat) : Met l yX6_isBridge (oh_w yX6_isBridge cX6_isBridge 2 (some .boolean)) ({ frames := 1, cells := 0, slots := 0, locals := 22 }) (oh_Pp D E G [.ref a0, .int v_r] [(a0, .inr (6, [.ref a0_now, .ref a0_kept, .int 0, .ref a0_ways, .ref a0_shelves, .ref a0_tape, .ref a0_reader, .ref a0_refusals, .ref a0_bestPack])), (a0_now, .inr (0, [.ref a0_now_counts, .ref a0_now_roads, .ref a0_now_bridges, .ref a0_now_waggons, .ref a0_now_parts, .ref a0_now_settings, .ref a0_now_trip, .int 0])), (a0_now_counts, .inl (E 0, 4, .inl (fun _ => 0)))]) (vp_Si (fun r => r = fX6_within v_r 0 (-1))) 0 0 (fun _ => False) := by
  refine Met.ofW (cc := cX6_isBridge) (maxL := 2) (ret := (some .boolean)) (by decide) rfl ?_
  intro p e s m args below meth c s₁ B hml hv
  obtain ⟨rfl, hP, hK, hG⟩ := hv
  have hx := B.exec
  have hb := B.bytes
  have hr := B.returns
  have hts := atoms_spec (ws := (oh_w yX6_isBridge cX6_isBridge 2 (some .boolean))) B.pre
  have htg : ∀ w ∈ oh_t, w.before _ s = true := fun w h => hts w (List.mem_cons_of_mem _ h)
  have hown : s.vm.findClass RX6 = some m.cls := findClass_of_methodNamed B.named
  have hlocks := B.notSynchronized
  have hS : va_S (fun _ => False) s.heap s.heap [] := va_S.rf
  have hl := lv_entry ([.ref a0, .int v_r]) (n := 2) (Nat.le_of_ble_eq_true rfl)
  rw [lg_entry_eq]
  generalize (lg_sl ([.ref a0, .int v_r]) ++ List.replicate (2 - (lg_sl ([.ref a0, .int v_r])).length) Slot.unset).toArray = ls at hl ⊢
  have hl : lv_has ls 2 [(0, .ref a0), (1, .int v_r)] := hl
  refine lv_iload_n hx hb dX6_isBridge_0 rfl (lv_at hl 1 rfl) ?_
  refine lv_iconst (v := 0) hx hb dX6_isBridge_1 (by decide) ?_
  refine lv_aload_n hx hb dX6_isBridge_2 rfl (lv_at hl 0 rfl) ?_
  refine va_get (D := D) (ci := 6) (v := .ref a0_now) (C := RX6) (T := TX6) (N := 9) hx hb htg ig_6 hown hK hP 0 rfl rfl 0 (by decide) (htg _ q_258) (fun _ h9 => h9) rfl dX6_isBridge_3 ?_
  refine va_get (D := D) (ci := 0) (v := .ref a0_now_counts) (C := RX0) (T := TX0) (N := 8) hx hb htg ig_0 hown hK hP 1 rfl rfl 0 (by decide) (htg _ q_100) (fun _ h9 => h9) rfl dX6_isBridge_6 ?_
  refine lv_iconst (v := 1) hx hb dX6_isBridge_9 (by decide) ?_
  refine va_iald hx hb hK hP 2 0 rfl rfl (show vp_in 1 4 by unfold vp_in; decide) dX6_isBridge_10 ?_
  refine oh_nrm (v := 0) (by decide) ?_
  refine lv_iconst (v := 1) hx hb dX6_isBridge_11 (by decide) ?_
  refine lv_isub hx hb dX6_isBridge_12 ?_
  refine oh_nrm (v := (-1)) (by decide) ?_
  refine oh_pS (As := [.int v_r, .int 0, .int (-1)]) (rest := []) (v := fX6_within v_r 0 (-1)) ⟨hx, hb, hml, hown, htg⟩ (c_X6_within l D E G v_r 0 (-1)) (va_cwS 3 htg (oh_gS q_293 q_294 q_66 q_295) rfl rfl rfl pdX6_within ⟨Nat.le_of_ble_eq_true rfl, Nat.le_of_ble_eq_true rfl⟩) hK (hP.sub (ws' := []) [] rfl) hG hS rfl hl.1 rfl (Nat.le_of_ble_eq_true rfl) dX6_isBridge_13 ⟨Nat.le_of_ble_eq_true rfl, Nat.le_of_ble_eq_true rfl⟩ ?_
  exact W.zret (v := fX6_within v_r 0 (-1)) (ty := .boolean) hx hb hr (oh_nb (fX6_within_b v_r 0 (-1))) (fun t ht hW => ⟨fX6_within v_r 0 (-1), rfl, rfl, ht⟩) (fun q h => by cases h) dX6_isBridge_16
theorem kk_X6_isBridge (v_r : Int32) : fX6_within v_r 0 (-1) = 0 := by
  exact oh_none v_r
theorem k_X6_isBridge (l : Launch) (D : va_G) (E : Nat → ClassId) (G : Nat → Nat) (a0 : Nat) (v_r : Int32) (a0_now : Nat) (a0_kept : Nat) (a0_ways : Nat) (a0_shelves : Nat) (a0_tape : Nat) (a0_reader : Nat) (a0_refusals : Nat) (a0_bestPack : Nat) (a0_now_counts : Nat) (a0_now_roads : Nat) (a0_now_bridges : Nat) (a0_now_waggons : Nat) (a0_now_parts : Nat) (a0_now_settings : Nat) (a0_now_trip : Nat) : Met l yX6_isBridge (oh_w yX6_isBridge cX6_isBridge 2 (some .boolean)) ({ frames := 1, cells := 0, slots := 0, locals := 22 }) (oh_Pp D E G [.ref a0, .int v_r] [(a0, .inr (6, [.ref a0_now, .ref a0_kept, .int 0, .ref a0_ways, .ref a0_shelves, .ref a0_tape, .ref a0_reader, .ref a0_refusals, .ref a0_bestPack])), (a0_now, .inr (0, [.ref a0_now_counts, .ref a0_now_roads, .ref a0_now_bridges, .ref a0_now_waggons, .ref a0_now_parts, .ref a0_now_settings, .ref a0_now_trip, .int 0])), (a0_now_counts, .inl (E 0, 4, .inl (fun _ => 0)))]) (vp_Si (fun r => r = 0)) 0 0 (fun _ => False) := by
  have h := c_X6_isBridge l D E G a0 v_r a0_now a0_kept a0_ways a0_shelves a0_tape a0_reader a0_refusals a0_bestPack a0_now_counts a0_now_roads a0_now_bridges a0_now_waggons a0_now_parts a0_now_settings a0_now_trip
  rw [kk_X6_isBridge] at h
  exact h
set_option maxHeartbeats 4000000 in
set_option maxRecDepth 100000 in
theorem c_X6_isWaggon (l : Launch) (D : va_G) (E : Nat → ClassId) (G : Nat → Nat) (a0 : Nat) (v_r : Int32) (a0_now : Nat) (a0_kept : Nat) (a0_ways : Nat) (a0_shelves : Nat) (a0_tape : Nat) (a0_reader : Nat) (a0_refusals : Nat) (a0_bestPack : Nat) (a0_now_counts : Nat) (a0_now_roads : Nat) (a0_now_bridges : Nat) (a0_now_waggons : Nat) (a0_now_parts : Nat) (a0_now_settings : Nat) (a0_now_trip : Nat) : Met l yX6_isWaggon (oh_w yX6_isWaggon cX6_isWaggon 2 (some .boolean)) ({ frames := 1, cells := 0, slots := 0, locals := 22 }) (oh_Pp D E G [.ref a0, .int v_r] [(a0, .inr (6, [.ref a0_now, .ref a0_kept, .int 0, .ref a0_ways, .ref a0_shelves, .ref a0_tape, .ref a0_reader, .ref a0_refusals, .ref a0_bestPack])), (a0_now, .inr (0, [.ref a0_now_counts, .ref a0_now_roads, .ref a0_now_bridges, .ref a0_now_waggons, .ref a0_now_parts, .ref a0_now_settings, .ref a0_now_trip, .int 0])), (a0_now_counts, .inl (E 0, 4, .inl (fun _ => 0)))]) (vp_Si (fun r => r = fX6_within v_r 0 (-1))) 0 0 (fun _ => False) := by
  refine Met.ofW (cc := cX6_isWaggon) (maxL := 2) (ret := (some .boolean)) (by decide) rfl ?_
  intro p e s m args below meth c s₁ B hml hv
  obtain ⟨rfl, hP, hK, hG⟩ := hv
  have hx := B.exec
  have hb := B.bytes
  have hr := B.returns
  have hts := atoms_spec (ws := (oh_w yX6_isWaggon cX6_isWaggon 2 (some .boolean))) B.pre
  have htg : ∀ w ∈ oh_t, w.before _ s = true := fun w h => hts w (List.mem_cons_of_mem _ h)
  have hown : s.vm.findClass RX6 = some m.cls := findClass_of_methodNamed B.named
  have hlocks := B.notSynchronized
  have hS : va_S (fun _ => False) s.heap s.heap [] := va_S.rf
  have hl := lv_entry ([.ref a0, .int v_r]) (n := 2) (Nat.le_of_ble_eq_true rfl)
  rw [lg_entry_eq]
  generalize (lg_sl ([.ref a0, .int v_r]) ++ List.replicate (2 - (lg_sl ([.ref a0, .int v_r])).length) Slot.unset).toArray = ls at hl ⊢
  have hl : lv_has ls 2 [(0, .ref a0), (1, .int v_r)] := hl
  refine lv_iload_n hx hb dX6_isWaggon_0 rfl (lv_at hl 1 rfl) ?_
  refine lv_iconst (v := 0) hx hb dX6_isWaggon_1 (by decide) ?_
  refine lv_aload_n hx hb dX6_isWaggon_2 rfl (lv_at hl 0 rfl) ?_
  refine va_get (D := D) (ci := 6) (v := .ref a0_now) (C := RX6) (T := TX6) (N := 9) hx hb htg ig_6 hown hK hP 0 rfl rfl 0 (by decide) (htg _ q_258) (fun _ h9 => h9) rfl dX6_isWaggon_3 ?_
  refine va_get (D := D) (ci := 0) (v := .ref a0_now_counts) (C := RX0) (T := TX0) (N := 8) hx hb htg ig_0 hown hK hP 1 rfl rfl 0 (by decide) (htg _ q_100) (fun _ h9 => h9) rfl dX6_isWaggon_6 ?_
  refine lv_iconst (v := 2) hx hb dX6_isWaggon_9 (by decide) ?_
  refine va_iald hx hb hK hP 2 0 rfl rfl (show vp_in 2 4 by unfold vp_in; decide) dX6_isWaggon_10 ?_
  refine oh_nrm (v := 0) (by decide) ?_
  refine lv_iconst (v := 1) hx hb dX6_isWaggon_11 (by decide) ?_
  refine lv_isub hx hb dX6_isWaggon_12 ?_
  refine oh_nrm (v := (-1)) (by decide) ?_
  refine oh_pS (As := [.int v_r, .int 0, .int (-1)]) (rest := []) (v := fX6_within v_r 0 (-1)) ⟨hx, hb, hml, hown, htg⟩ (c_X6_within l D E G v_r 0 (-1)) (va_cwS 3 htg (oh_gS q_293 q_294 q_66 q_295) rfl rfl rfl pdX6_within ⟨Nat.le_of_ble_eq_true rfl, Nat.le_of_ble_eq_true rfl⟩) hK (hP.sub (ws' := []) [] rfl) hG hS rfl hl.1 rfl (Nat.le_of_ble_eq_true rfl) dX6_isWaggon_13 ⟨Nat.le_of_ble_eq_true rfl, Nat.le_of_ble_eq_true rfl⟩ ?_
  exact W.zret (v := fX6_within v_r 0 (-1)) (ty := .boolean) hx hb hr (oh_nb (fX6_within_b v_r 0 (-1))) (fun t ht hW => ⟨fX6_within v_r 0 (-1), rfl, rfl, ht⟩) (fun q h => by cases h) dX6_isWaggon_16
theorem kk_X6_isWaggon (v_r : Int32) : fX6_within v_r 0 (-1) = 0 := by
  exact oh_none v_r
theorem k_X6_isWaggon (l : Launch) (D : va_G) (E : Nat → ClassId) (G : Nat → Nat) (a0 : Nat) (v_r : Int32) (a0_now : Nat) (a0_kept : Nat) (a0_ways : Nat) (a0_shelves : Nat) (a0_tape : Nat) (a0_reader : Nat) (a0_refusals : Nat) (a0_bestPack : Nat) (a0_now_counts : Nat) (a0_now_roads : Nat) (a0_now_bridges : Nat) (a0_now_waggons : Nat) (a0_now_parts : Nat) (a0_now_settings : Nat) (a0_now_trip : Nat) : Met l yX6_isWaggon (oh_w yX6_isWaggon cX6_isWaggon 2 (some .boolean)) ({ frames := 1, cells := 0, slots := 0, locals := 22 }) (oh_Pp D E G [.ref a0, .int v_r] [(a0, .inr (6, [.ref a0_now, .ref a0_kept, .int 0, .ref a0_ways, .ref a0_shelves, .ref a0_tape, .ref a0_reader, .ref a0_refusals, .ref a0_bestPack])), (a0_now, .inr (0, [.ref a0_now_counts, .ref a0_now_roads, .ref a0_now_bridges, .ref a0_now_waggons, .ref a0_now_parts, .ref a0_now_settings, .ref a0_now_trip, .int 0])), (a0_now_counts, .inl (E 0, 4, .inl (fun _ => 0)))]) (vp_Si (fun r => r = 0)) 0 0 (fun _ => False) := by
  have h := c_X6_isWaggon l D E G a0 v_r a0_now a0_kept a0_ways a0_shelves a0_tape a0_reader a0_refusals a0_bestPack a0_now_counts a0_now_roads a0_now_bridges a0_now_waggons a0_now_parts a0_now_settings a0_now_trip
  rw [kk_X6_isWaggon] at h
  exact h
set_option maxHeartbeats 4000000 in
set_option maxRecDepth 100000 in
theorem c_X0_setsOfParts (l : Launch) (D : va_G) (E : Nat → ClassId) (G : Nat → Nat) (a0 : Nat) (a0_counts : Nat) (a0_roads : Nat) (a0_bridges : Nat) (a0_waggons : Nat) (a0_parts : Nat) (a0_settings : Nat) (a0_trip : Nat) : Met l yX0_setsOfParts (oh_w yX0_setsOfParts cX0_setsOfParts 1 (some .int)) ({ frames := 0, cells := 0, slots := 0, locals := 0 }) (oh_Pp D E G [.ref a0] [(a0, .inr (0, [.ref a0_counts, .ref a0_roads, .ref a0_bridges, .ref a0_waggons, .ref a0_parts, .ref a0_settings, .ref a0_trip, .int 0])), (a0_counts, .inl (E 0, 4, .inl (fun _ => 0)))]) (vp_Si (fun r => r = 1)) 0 0 (fun _ => False) := by
  refine Met.ofW (cc := cX0_setsOfParts) (maxL := 1) (ret := (some .int)) (by decide) rfl ?_
  intro p e s m args below meth c s₁ B hml hv
  obtain ⟨rfl, hP, hK, hG⟩ := hv
  have hx := B.exec
  have hb := B.bytes
  have hr := B.returns
  have hts := atoms_spec (ws := (oh_w yX0_setsOfParts cX0_setsOfParts 1 (some .int))) B.pre
  have htg : ∀ w ∈ oh_t, w.before _ s = true := fun w h => hts w (List.mem_cons_of_mem _ h)
  have hown : s.vm.findClass RX0 = some m.cls := findClass_of_methodNamed B.named
  have hlocks := B.notSynchronized
  have hS : va_S (fun _ => False) s.heap s.heap [] := va_S.rf
  have hl := lv_entry ([.ref a0]) (n := 1) (Nat.le_of_ble_eq_true rfl)
  rw [lg_entry_eq]
  generalize (lg_sl ([.ref a0]) ++ List.replicate (1 - (lg_sl ([.ref a0])).length) Slot.unset).toArray = ls at hl ⊢
  have hl : lv_has ls 1 [(0, .ref a0)] := hl
  refine lv_iconst (v := 1) hx hb dX0_setsOfParts_0 (by decide) ?_
  refine lv_aload_n hx hb dX0_setsOfParts_1 rfl (lv_at hl 0 rfl) ?_
  refine va_get (D := D) (ci := 0) (v := .ref a0_counts) (C := RX0) (T := TX0) (N := 8) hx hb htg ig_0 hown hK hP 0 rfl rfl 0 (by decide) (htg _ q_97) (fun _ h9 => h9) rfl dX0_setsOfParts_2 ?_
  refine lv_iconst (v := 3) hx hb dX0_setsOfParts_5 (by decide) ?_
  refine va_iald hx hb hK hP 1 0 rfl rfl (show vp_in 3 4 by unfold vp_in; decide) dX0_setsOfParts_6 ?_
  refine oh_nrm (v := 0) (by decide) ?_
  refine lv_ishl hx hb dX0_setsOfParts_7 ?_
  refine oh_nrm (v := 1) (by decide) ?_
  exact W.iret (v := 1) hx hb hr (fun t ht hW => ⟨1, rfl, rfl, ht⟩) (fun q h => by cases h) dX0_setsOfParts_8
set_option maxHeartbeats 4000000 in
set_option maxRecDepth 100000 in
theorem c_X6_isPack (l : Launch) (D : va_G) (E : Nat → ClassId) (G : Nat → Nat) (a0 : Nat) (v_w : Int32) (v_k : Int32) (a0_now : Nat) (a0_kept : Nat) (a0_ways : Nat) (a0_shelves : Nat) (a0_tape : Nat) (a0_reader : Nat) (a0_refusals : Nat) (a0_bestPack : Nat) (a0_now_counts : Nat) (a0_now_roads : Nat) (a0_now_bridges : Nat) (a0_now_waggons : Nat) (a0_now_parts : Nat) (a0_now_settings : Nat) (a0_now_trip : Nat) : Met l yX6_isPack (oh_w yX6_isPack cX6_isPack 3 (some .boolean)) ({ frames := 2, cells := 0, slots := 0, locals := 43 }) (oh_Pp D E G [.ref a0, .int v_w, .int v_k] [(a0, .inr (6, [.ref a0_now, .ref a0_kept, .int 0, .ref a0_ways, .ref a0_shelves, .ref a0_tape, .ref a0_reader, .ref a0_refusals, .ref a0_bestPack])), (a0_now, .inr (0, [.ref a0_now_counts, .ref a0_now_roads, .ref a0_now_bridges, .ref a0_now_waggons, .ref a0_now_parts, .ref a0_now_settings, .ref a0_now_trip, .int 0])), (a0_now_counts, .inl (E 0, 4, .inl (fun _ => 0)))]) (vp_Si (fun r => r = 0)) 0 0 (fun _ => False) := by
  refine Met.ofW (cc := cX6_isPack) (maxL := 3) (ret := (some .boolean)) (by decide) rfl ?_
  intro p e s m args below meth c s₁ B hml hv
  obtain ⟨rfl, hP, hK, hG⟩ := hv
  have hx := B.exec
  have hb := B.bytes
  have hr := B.returns
  have hts := atoms_spec (ws := (oh_w yX6_isPack cX6_isPack 3 (some .boolean))) B.pre
  have htg : ∀ w ∈ oh_t, w.before _ s = true := fun w h => hts w (List.mem_cons_of_mem _ h)
  have hown : s.vm.findClass RX6 = some m.cls := findClass_of_methodNamed B.named
  have hlocks := B.notSynchronized
  have hS : va_S (fun _ => False) s.heap s.heap [] := va_S.rf
  have hl := lv_entry ([.ref a0, .int v_w, .int v_k]) (n := 3) (Nat.le_of_ble_eq_true rfl)
  rw [lg_entry_eq]
  generalize (lg_sl ([.ref a0, .int v_w, .int v_k]) ++ List.replicate (3 - (lg_sl ([.ref a0, .int v_w, .int v_k])).length) Slot.unset).toArray = ls at hl ⊢
  have hl : lv_has ls 3 [(0, .ref a0), (1, .int v_w), (2, .int v_k)] := hl
  refine lv_aload_n hx hb dX6_isPack_0 rfl (lv_at hl 0 rfl) ?_
  refine lv_iload_n hx hb dX6_isPack_1 rfl (lv_at hl 1 rfl) ?_
  refine oh_pV (As := [.int v_w]) (rest := []) (v := 0) ⟨hx, hb, hml, hown, htg⟩ (k_X6_isWaggon l D E G a0 v_w a0_now a0_kept a0_ways a0_shelves a0_tape a0_reader a0_refusals a0_bestPack a0_now_counts a0_now_roads a0_now_bridges a0_now_waggons a0_now_parts a0_now_settings a0_now_trip) (cwV 1 htg (oh_gV q_679 q_681 q_15 q_66 q_682) rfl rfl rfl pdVX6_isWaggon ⟨Nat.le_of_ble_eq_true rfl, Nat.le_of_ble_eq_true rfl⟩) hK (hP.sub (ws' := [(a0, .inr (6, [.ref a0_now, .ref a0_kept, .int 0, .ref a0_ways, .ref a0_shelves, .ref a0_tape, .ref a0_reader, .ref a0_refusals, .ref a0_bestPack])), (a0_now, .inr (0, [.ref a0_now_counts, .ref a0_now_roads, .ref a0_now_bridges, .ref a0_now_waggons, .ref a0_now_parts, .ref a0_now_settings, .ref a0_now_trip, .int 0])), (a0_now_counts, .inl (E 0, 4, .inl (fun _ => 0)))]) [0, 1, 2] rfl) hG hS (va_recv hK hP (ci := 6) (q0 := 0) rfl rfl) rfl hl.1 rfl (Nat.le_of_ble_eq_true rfl) dX6_isPack_2 ⟨Nat.le_of_ble_eq_true rfl, Nat.le_of_ble_eq_true rfl⟩ ?_
  refine lv_if_eq (tgt := 29) hx hb dX6_isPack_5 (by decide) (fun _ => ?_) (fun c => absurd (show (0 : Int32) = 0 from by decide) c)
  refine lv_iconst (v := 0) hx hb dX6_isPack_29 (by decide) ?_
  exact W.zret (v := 0) (ty := .boolean) hx hb hr (by decide) (fun t ht hW => ⟨0, rfl, rfl, ht⟩) (fun q h => by cases h) dX6_isPack_30
set_option maxHeartbeats 4000000 in
set_option maxRecDepth 100000 in
theorem c_X6_isJourney (l : Launch) (D : va_G) (E : Nat → ClassId) (G : Nat → Nat) (a0 : Nat) (v_w : Int32) (v_k : Int32) (v_f : Int32) (v_t : Int32) (a0_now : Nat) (a0_kept : Nat) (a0_ways : Nat) (a0_shelves : Nat) (a0_tape : Nat) (a0_reader : Nat) (a0_refusals : Nat) (a0_bestPack : Nat) (a0_now_counts : Nat) (a0_now_roads : Nat) (a0_now_bridges : Nat) (a0_now_waggons : Nat) (a0_now_parts : Nat) (a0_now_settings : Nat) (a0_now_trip : Nat) : Met l yX6_isJourney (oh_w yX6_isJourney cX6_isJourney 5 (some .boolean)) ({ frames := 3, cells := 0, slots := 0, locals := 65 }) (oh_Pp D E G [.ref a0, .int v_w, .int v_k, .int v_f, .int v_t] [(a0, .inr (6, [.ref a0_now, .ref a0_kept, .int 0, .ref a0_ways, .ref a0_shelves, .ref a0_tape, .ref a0_reader, .ref a0_refusals, .ref a0_bestPack])), (a0_now, .inr (0, [.ref a0_now_counts, .ref a0_now_roads, .ref a0_now_bridges, .ref a0_now_waggons, .ref a0_now_parts, .ref a0_now_settings, .ref a0_now_trip, .int 0])), (a0_now_counts, .inl (E 0, 4, .inl (fun _ => 0)))]) (vp_Si (fun r => r = 0)) 0 0 (fun _ => False) := by
  refine Met.ofW (cc := cX6_isJourney) (maxL := 5) (ret := (some .boolean)) (by decide) rfl ?_
  intro p e s m args below meth c s₁ B hml hv
  obtain ⟨rfl, hP, hK, hG⟩ := hv
  have hx := B.exec
  have hb := B.bytes
  have hr := B.returns
  have hts := atoms_spec (ws := (oh_w yX6_isJourney cX6_isJourney 5 (some .boolean))) B.pre
  have htg : ∀ w ∈ oh_t, w.before _ s = true := fun w h => hts w (List.mem_cons_of_mem _ h)
  have hown : s.vm.findClass RX6 = some m.cls := findClass_of_methodNamed B.named
  have hlocks := B.notSynchronized
  have hS : va_S (fun _ => False) s.heap s.heap [] := va_S.rf
  have hl := lv_entry ([.ref a0, .int v_w, .int v_k, .int v_f, .int v_t]) (n := 5) (Nat.le_of_ble_eq_true rfl)
  rw [lg_entry_eq]
  generalize (lg_sl ([.ref a0, .int v_w, .int v_k, .int v_f, .int v_t]) ++ List.replicate (5 - (lg_sl ([.ref a0, .int v_w, .int v_k, .int v_f, .int v_t])).length) Slot.unset).toArray = ls at hl ⊢
  have hl : lv_has ls 5 [(0, .ref a0), (1, .int v_w), (2, .int v_k), (3, .int v_f), (4, .int v_t)] := hl
  refine lv_aload_n hx hb dX6_isJourney_0 rfl (lv_at hl 0 rfl) ?_
  refine lv_iload_n hx hb dX6_isJourney_1 rfl (lv_at hl 1 rfl) ?_
  refine lv_iload_n hx hb dX6_isJourney_2 rfl (lv_at hl 2 rfl) ?_
  refine oh_pV (As := [.int v_w, .int v_k]) (rest := []) (v := 0) ⟨hx, hb, hml, hown, htg⟩ (c_X6_isPack l D E G a0 v_w v_k a0_now a0_kept a0_ways a0_shelves a0_tape a0_reader a0_refusals a0_bestPack a0_now_counts a0_now_roads a0_now_bridges a0_now_waggons a0_now_parts a0_now_settings a0_now_trip) (cwV 2 htg (oh_gV q_695 q_697 q_16 q_66 q_698) rfl rfl rfl pdVX6_isPack ⟨Nat.le_of_ble_eq_true rfl, Nat.le_of_ble_eq_true rfl⟩) hK (hP.sub (ws' := [(a0, .inr (6, [.ref a0_now, .ref a0_kept, .int 0, .ref a0_ways, .ref a0_shelves, .ref a0_tape, .ref a0_reader, .ref a0_refusals, .ref a0_bestPack])), (a0_now, .inr (0, [.ref a0_now_counts, .ref a0_now_roads, .ref a0_now_bridges, .ref a0_now_waggons, .ref a0_now_parts, .ref a0_now_settings, .ref a0_now_trip, .int 0])), (a0_now_counts, .inl (E 0, 4, .inl (fun _ => 0)))]) [0, 1, 2] rfl) hG hS (va_recv hK hP (ci := 6) (q0 := 0) rfl rfl) rfl hl.1 rfl (Nat.le_of_ble_eq_true rfl) dX6_isJourney_3 ⟨Nat.le_of_ble_eq_true rfl, Nat.le_of_ble_eq_true rfl⟩ ?_
  refine lv_if_eq (tgt := 28) hx hb dX6_isJourney_6 (by decide) (fun _ => ?_) (fun c => absurd (show (0 : Int32) = 0 from by decide) c)
  refine lv_iconst (v := 0) hx hb dX6_isJourney_28 (by decide) ?_
  exact W.zret (v := 0) (ty := .boolean) hx hb hr (by decide) (fun t ht hW => ⟨0, rfl, rfl, ht⟩) (fun q h => by cases h) dX6_isJourney_29
set_option maxHeartbeats 4000000 in
set_option maxRecDepth 100000 in
theorem c_X6_refuse (l : Launch) (D : va_G) (E : Nat → ClassId) (G : Nat → Nat) (sz : Nat) (a0 : Nat) (v_n : Int32) (a0_now : Nat) (a0_kept : Nat) (a0_ways : Nat) (a0_shelves : Nat) (a0_tape : Nat) (a0_reader : Nat) (a0_refusals : Nat) (a0_bestPack : Nat) : Met l yX6_refuse (oh_w yX6_refuse cX6_refuse 3 (some .int)) ({ frames := 1, cells := 0, slots := 0, locals := 22 }) (oh_Pm D E G [.ref a0, .int v_n] [(a0, .inr (6, [.ref a0_now, .ref a0_kept, .int 0, .ref a0_ways, .ref a0_shelves, .ref a0_tape, .ref a0_reader, .ref a0_refusals, .ref a0_bestPack])), (a0_refusals, .inl (E 0, 5, .inl (fun _ => 0)))] sz) (va_Qi (fun r (_ : Unit) => r = v_n) (oh_B D (va_A [(a0, .inr (6, [.ref a0_now, .ref a0_kept, .int 0, .ref a0_ways, .ref a0_shelves, .ref a0_tape, .ref a0_reader, .ref a0_refusals, .ref a0_bestPack])), (a0_refusals, .inl (E 0, 5, .inl (fun _ => 0)))] sz) (fun _ => [(a0, .inr (6, [.ref a0_now, .ref a0_kept, .int 0, .ref a0_ways, .ref a0_shelves, .ref a0_tape, .ref a0_reader, .ref a0_refusals, .ref a0_bestPack]))])) (va_A [(a0, .inr (6, [.ref a0_now, .ref a0_kept, .int 0, .ref a0_ways, .ref a0_shelves, .ref a0_tape, .ref a0_reader, .ref a0_refusals, .ref a0_bestPack])), (a0_refusals, .inl (E 0, 5, .inl (fun _ => 0)))] sz)) 0 0 (va_A [(a0, .inr (6, [.ref a0_now, .ref a0_kept, .int 0, .ref a0_ways, .ref a0_shelves, .ref a0_tape, .ref a0_reader, .ref a0_refusals, .ref a0_bestPack])), (a0_refusals, .inl (E 0, 5, .inl (fun _ => 0)))] sz) := by
  refine Met.ofW (cc := cX6_refuse) (maxL := 3) (ret := (some .int)) (by decide) rfl ?_
  intro p e s m args below meth c s₁ B hml hv
  obtain ⟨rfl, hsz, hP, hK, hD0, hG⟩ := hv
  have hx := B.exec
  have hb := B.bytes
  have hr := B.returns
  have hts := atoms_spec (ws := (oh_w yX6_refuse cX6_refuse 3 (some .int))) B.pre
  have htg : ∀ w ∈ oh_t, w.before _ s = true := fun w h => hts w (List.mem_cons_of_mem _ h)
  have hown : s.vm.findClass RX6 = some m.cls := findClass_of_methodNamed B.named
  have hlocks := B.notSynchronized
  subst hsz
  have hD := hD0.self (sz := s.heap.size)
  generalize hAe : va_A [(a0, .inr (6, [.ref a0_now, .ref a0_kept, .int 0, .ref a0_ways, .ref a0_shelves, .ref a0_tape, .ref a0_reader, .ref a0_refusals, .ref a0_bestPack])), (a0_refusals, .inl (E 0, 5, .inl (fun _ => 0)))] s.heap.size = A at hD hG ⊢
  have hA : ∀ q : Nat, s.heap.size ≤ q → A q := fun q h => by rw [← hAe]; exact Or.inr h
  have hS : va_S A s.heap s.heap [] := va_S.rf
  have hP : va_P D vwCl [(a0, .inr (6, [.ref a0_now, .ref a0_kept, .int 0, .ref a0_ways, .ref a0_shelves, .ref a0_tape, .ref a0_reader, .ref a0_refusals, .ref a0_bestPack])), (a0_refusals, .inl (E 0, 5, .inl (fun _ => 0)))] s.heap := hP
  have hl := lv_entry ([.ref a0, .int v_n]) (n := 3) (Nat.le_of_ble_eq_true rfl)
  rw [lg_entry_eq]
  generalize (lg_sl ([.ref a0, .int v_n]) ++ List.replicate (3 - (lg_sl ([.ref a0, .int v_n])).length) Slot.unset).toArray = ls at hl ⊢
  have hl : lv_has ls 3 [(0, .ref a0), (1, .int v_n)] := hl
  refine lv_bipush (v := (-2)) hx hb dX6_refuse_0 (by decide) ?_
  refine lv_iload_n hx hb dX6_refuse_2 rfl (lv_at hl 1 rfl) ?_
  refine lv_isub hx hb dX6_refuse_3 ?_
  refine lv_istore_n (lv' := [(2, .int ((-2) - v_n)), (0, .ref a0), (1, .int v_n)]) hx hb dX6_refuse_4 rfl hl (by decide) rfl (fun ls hl => ?_)
  refine lv_iload_n hx hb dX6_refuse_5 rfl (lv_at hl 0 rfl) ?_
  refine lv_iconst (v := 0) hx hb dX6_refuse_6 (by decide) ?_
  refine lv_iconst (v := 4) hx hb dX6_refuse_7 (by decide) ?_
  refine oh_pS (As := [.int ((-2) - v_n), .int 0, .int 4]) (rest := []) (v := fX6_within ((-2) - v_n) 0 4) ⟨hx, hb, hml, hown, htg⟩ (c_X6_within l D E G ((-2) - v_n) 0 4) (va_cwS 3 htg (oh_gS q_293 q_294 q_66 q_295) rfl rfl rfl pdX6_within ⟨Nat.le_of_ble_eq_true rfl, Nat.le_of_ble_eq_true rfl⟩) hK (hP.sub (ws' := []) [] rfl) hG hS rfl hl.1 rfl (Nat.le_of_ble_eq_true rfl) dX6_refuse_8 ⟨Nat.le_of_ble_eq_true rfl, Nat.le_of_ble_eq_true rfl⟩ ?_
  refine lv_if_eq (tgt := 24) hx hb dX6_refuse_11 (by decide) (fun (c_1 : (fX6_within ((-2) - v_n) 0 4) = 0) => ?_) (fun (c_1 : ¬ ((fX6_within ((-2) - v_n) 0 4) = 0)) => ?_)
  · refine lv_iload_n hx hb dX6_refuse_24 rfl (lv_at hl 2 rfl) ?_
    refine W.widen (k := 0) (n := 0) (Nat.le_of_ble_eq_true rfl) (Nat.le_of_ble_eq_true rfl) ?_
    exact W.iret (v := v_n) hx hb hr (fun t ht hW => ⟨⟨v_n, (), rfl, rfl, ⟨by rw [ht]; exact hP.sub [0] rfl, hD.sub [0] (by decide) rfl⟩⟩, hS.F ht⟩) hS.2.2 dX6_refuse_25
  · refine lv_aload_n hx hb dX6_refuse_14 rfl (lv_at hl 1 rfl) ?_
    refine va_get (D := D) (ci := 6) (v := .ref a0_refusals) (C := RX6) (T := TX6) (N := 9) hx hb htg ig_6 hown hK hP 0 rfl rfl 7 (by decide) (htg _ q_265) (fun _ h9 => h9) rfl dX6_refuse_15 ?_
    refine lv_iload_n hx hb dX6_refuse_18 rfl (lv_at hl 0 rfl) ?_
    refine lv_dup2_11 hx hb dX6_refuse_19 rfl rfl ?_
    refine va_iald hx hb hK hP 1 0 rfl rfl (oh_win c_1 (by decide)) dX6_refuse_20 ?_
    refine oh_nrm (v := 0) (by rfl) ?_
    refine lv_iconst (v := 1) hx hb dX6_refuse_21 (by decide) ?_
    refine lv_iadd hx hb dX6_refuse_22 ?_
    refine oh_nrm (v := 1) (by decide) ?_
    refine va_iast hx hb hK hP hD hS 1 0 rfl rfl (oh_win c_1 (by decide)) dX6_refuse_23 (fun H locs hP hD hS => ?_)
    have hP : va_P D vwCl [(a0, .inr (6, [.ref a0_now, .ref a0_kept, .int 0, .ref a0_ways, .ref a0_shelves, .ref a0_tape, .ref a0_reader, .ref a0_refusals, .ref a0_bestPack])), (a0_refusals, .inl (E 0, 5, .inl (upd (fun _ => 0) (((-2) - v_n).toNatClampNeg) 1)))] H := hP
    have hD : va_D A [(a0, .inr (6, [.ref a0_now, .ref a0_kept, .int 0, .ref a0_ways, .ref a0_shelves, .ref a0_tape, .ref a0_reader, .ref a0_refusals, .ref a0_bestPack])), (a0_refusals, .inl (E 0, 5, .inl (upd (fun _ => 0) (((-2) - v_n).toNatClampNeg) 1)))] := hD
    refine lv_iload_n hx hb dX6_refuse_24 rfl (lv_at hl 2 rfl) ?_
    refine W.widen (k := 0) (n := 0) (Nat.le_of_ble_eq_true rfl) (Nat.le_of_ble_eq_true rfl) ?_
    exact W.iret (v := v_n) hx hb hr (fun t ht hW => ⟨⟨v_n, (), rfl, rfl, ⟨by rw [ht]; exact hP.sub [0] rfl, hD.sub [0] (by decide) rfl⟩⟩, hS.F ht⟩) hS.2.2 dX6_refuse_25
set_option maxHeartbeats 4000000 in
set_option maxRecDepth 100000 in
theorem c_X3_holdsNothing (l : Launch) (D : va_G) (E : Nat → ClassId) (G : Nat → Nat) (a0 : Nat) (v_s : Int32) (a0_held : Nat) (a0_size : Nat) (a0_cells : Nat) (hs : vp_in v_s 8) : Met l yX3_holdsNothing (oh_w yX3_holdsNothing cX3_holdsNothing 2 (some .boolean)) ({ frames := 0, cells := 0, slots := 0, locals := 0 }) (oh_Pp D E G [.ref a0, .int v_s] [(a0, .inr (3, [.ref a0_held, .ref a0_size, .ref a0_cells])), (a0_held, .inl (E 0, 8, .inl (fun _ => (-1))))]) (vp_Si (fun r => r = 1)) 0 0 (fun _ => False) := by
  refine Met.ofW (cc := cX3_holdsNothing) (maxL := 2) (ret := (some .boolean)) (by decide) rfl ?_
  intro p e s m args below meth c s₁ B hml hv
  obtain ⟨rfl, hP, hK, hG⟩ := hv
  have hx := B.exec
  have hb := B.bytes
  have hr := B.returns
  have hts := atoms_spec (ws := (oh_w yX3_holdsNothing cX3_holdsNothing 2 (some .boolean))) B.pre
  have htg : ∀ w ∈ oh_t, w.before _ s = true := fun w h => hts w (List.mem_cons_of_mem _ h)
  have hown : s.vm.findClass RX3 = some m.cls := findClass_of_methodNamed B.named
  have hlocks := B.notSynchronized
  have hS : va_S (fun _ => False) s.heap s.heap [] := va_S.rf
  have hl := lv_entry ([.ref a0, .int v_s]) (n := 2) (Nat.le_of_ble_eq_true rfl)
  rw [lg_entry_eq]
  generalize (lg_sl ([.ref a0, .int v_s]) ++ List.replicate (2 - (lg_sl ([.ref a0, .int v_s])).length) Slot.unset).toArray = ls at hl ⊢
  have hl : lv_has ls 2 [(0, .ref a0), (1, .int v_s)] := hl
  refine lv_aload_n hx hb dX3_holdsNothing_0 rfl (lv_at hl 0 rfl) ?_
  refine va_get (D := D) (ci := 3) (v := .ref a0_held) (C := RX3) (T := TX3) (N := 3) hx hb htg ig_3 hown hK hP 0 rfl rfl 0 (by decide) (htg _ q_198) (fun _ h9 => h9) rfl dX3_holdsNothing_1 ?_
  refine lv_iload_n hx hb dX3_holdsNothing_4 rfl (lv_at hl 1 rfl) ?_
  refine va_iald hx hb hK hP 1 0 rfl rfl hs dX3_holdsNothing_5 ?_
  refine oh_nrm (v := (-1)) (by rfl) ?_
  refine lv_iconst (v := (-1)) hx hb dX3_holdsNothing_6 (by decide) ?_
  refine lv_icmp_ne (tgt := 14) hx hb dX3_holdsNothing_7 (by decide) (fun c => absurd (show (-1 : Int32) = (-1) from by decide) c) (fun _ => ?_)
  refine lv_iconst (v := 1) hx hb dX3_holdsNothing_10 (by decide) ?_
  refine lv_goto (tgt := 15) hx hb dX3_holdsNothing_11 (by decide) ?_
  exact W.zret (v := 1) (ty := .boolean) hx hb hr (by decide) (fun t ht hW => ⟨1, rfl, rfl, ht⟩) (fun q h => by cases h) dX3_holdsNothing_15
set_option maxHeartbeats 4000000 in
set_option maxRecDepth 100000 in
theorem c_X3_holdsBridge (l : Launch) (D : va_G) (E : Nat → ClassId) (G : Nat → Nat) (a0 : Nat) (v_s : Int32) (a0_held : Nat) (a0_size : Nat) (a0_cells : Nat) (hs : vp_in v_s 8) : Met l yX3_holdsBridge (oh_w yX3_holdsBridge cX3_holdsBridge 2 (some .boolean)) ({ frames := 0, cells := 0, slots := 0, locals := 0 }) (oh_Pp D E G [.ref a0, .int v_s] [(a0, .inr (3, [.ref a0_held, .ref a0_size, .ref a0_cells])), (a0_held, .inl (E 0, 8, .inl (fun _ => (-1))))]) (vp_Si (fun r => r = 0)) 0 0 (fun _ => False) := by
  refine Met.ofW (cc := cX3_holdsBridge) (maxL := 2) (ret := (some .boolean)) (by decide) rfl ?_
  intro p e s m args below meth c s₁ B hml hv
  obtain ⟨rfl, hP, hK, hG⟩ := hv
  have hx := B.exec
  have hb := B.bytes
  have hr := B.returns
  have hts := atoms_spec (ws := (oh_w yX3_holdsBridge cX3_holdsBridge 2 (some .boolean))) B.pre
  have htg : ∀ w ∈ oh_t, w.before _ s = true := fun w h => hts w (List.mem_cons_of_mem _ h)
  have hown : s.vm.findClass RX3 = some m.cls := findClass_of_methodNamed B.named
  have hlocks := B.notSynchronized
  have hS : va_S (fun _ => False) s.heap s.heap [] := va_S.rf
  have hl := lv_entry ([.ref a0, .int v_s]) (n := 2) (Nat.le_of_ble_eq_true rfl)
  rw [lg_entry_eq]
  generalize (lg_sl ([.ref a0, .int v_s]) ++ List.replicate (2 - (lg_sl ([.ref a0, .int v_s])).length) Slot.unset).toArray = ls at hl ⊢
  have hl : lv_has ls 2 [(0, .ref a0), (1, .int v_s)] := hl
  refine lv_aload_n hx hb dX3_holdsBridge_0 rfl (lv_at hl 0 rfl) ?_
  refine va_get (D := D) (ci := 3) (v := .ref a0_held) (C := RX3) (T := TX3) (N := 3) hx hb htg ig_3 hown hK hP 0 rfl rfl 0 (by decide) (htg _ q_198) (fun _ h9 => h9) rfl dX3_holdsBridge_1 ?_
  refine lv_iload_n hx hb dX3_holdsBridge_4 rfl (lv_at hl 1 rfl) ?_
  refine va_iald hx hb hK hP 1 0 rfl rfl hs dX3_holdsBridge_5 ?_
  refine oh_nrm (v := (-1)) (by rfl) ?_
  refine lv_bipush (v := 10) hx hb dX3_holdsBridge_6 (by decide) ?_
  refine lv_icmp_lt (tgt := 15) hx hb dX3_holdsBridge_8 (by decide) (fun _ => ?_) (fun c => absurd (show (-1 : Int32) < 10 from by decide) c)
  refine lv_iconst (v := 0) hx hb dX3_holdsBridge_15 (by decide) ?_
  exact W.zret (v := 0) (ty := .boolean) hx hb hr (by decide) (fun t ht hW => ⟨0, rfl, rfl, ht⟩) (fun q h => by cases h) dX3_holdsBridge_16
set_option maxHeartbeats 4000000 in
set_option maxRecDepth 100000 in
theorem c_X3_holdsRow (l : Launch) (D : va_G) (E : Nat → ClassId) (G : Nat → Nat) (a0 : Nat) (v_s : Int32) (a0_held : Nat) (a0_size : Nat) (a0_cells : Nat) (hs : vp_in v_s 8) : Met l yX3_holdsRow (oh_w yX3_holdsRow cX3_holdsRow 2 (some .boolean)) ({ frames := 1, cells := 0, slots := 0, locals := 21 }) (oh_Pp D E G [.ref a0, .int v_s] [(a0, .inr (3, [.ref a0_held, .ref a0_size, .ref a0_cells])), (a0_held, .inl (E 0, 8, .inl (fun _ => (-1))))]) (vp_Si (fun r => r = 0)) 0 0 (fun _ => False) := by
  refine Met.ofW (cc := cX3_holdsRow) (maxL := 2) (ret := (some .boolean)) (by decide) rfl ?_
  intro p e s m args below meth c s₁ B hml hv
  obtain ⟨rfl, hP, hK, hG⟩ := hv
  have hx := B.exec
  have hb := B.bytes
  have hr := B.returns
  have hts := atoms_spec (ws := (oh_w yX3_holdsRow cX3_holdsRow 2 (some .boolean))) B.pre
  have htg : ∀ w ∈ oh_t, w.before _ s = true := fun w h => hts w (List.mem_cons_of_mem _ h)
  have hown : s.vm.findClass RX3 = some m.cls := findClass_of_methodNamed B.named
  have hlocks := B.notSynchronized
  have hS : va_S (fun _ => False) s.heap s.heap [] := va_S.rf
  have hl := lv_entry ([.ref a0, .int v_s]) (n := 2) (Nat.le_of_ble_eq_true rfl)
  rw [lg_entry_eq]
  generalize (lg_sl ([.ref a0, .int v_s]) ++ List.replicate (2 - (lg_sl ([.ref a0, .int v_s])).length) Slot.unset).toArray = ls at hl ⊢
  have hl : lv_has ls 2 [(0, .ref a0), (1, .int v_s)] := hl
  refine lv_aload_n hx hb dX3_holdsRow_0 rfl (lv_at hl 0 rfl) ?_
  refine lv_iload_n hx hb dX3_holdsRow_1 rfl (lv_at hl 1 rfl) ?_
  refine oh_pV (As := [.int v_s]) (rest := []) (v := 1) ⟨hx, hb, hml, hown, htg⟩ (c_X3_holdsNothing l D E G a0 v_s a0_held a0_size a0_cells hs) (cwV 1 htg (oh_gV q_339 q_317 q_318 q_70 q_319) rfl rfl rfl pdVX3_holdsNothing ⟨Nat.le_of_ble_eq_true rfl, Nat.le_of_ble_eq_true rfl⟩) hK (hP.sub (ws' := [(a0, .inr (3, [.ref a0_held, .ref a0_size, .ref a0_cells])), (a0_held, .inl (E 0, 8, .inl (fun _ => (-1))))]) [0, 1] rfl) hG hS (va_recv hK hP (ci := 3) (q0 := 0) rfl rfl) rfl hl.1 rfl (Nat.le_of_ble_eq_true rfl) dX3_holdsRow_2 ⟨Nat.le_of_ble_eq_true rfl, Nat.le_of_ble_eq_true rfl⟩ ?_
  refine lv_if_ne (tgt := 20) hx hb dX3_holdsRow_5 (by decide) (fun _ => ?_) (fun c => absurd c (show ¬ ((1 : Int32) = 0) from by decide))
  refine lv_iconst (v := 0) hx hb dX3_holdsRow_20 (by decide) ?_
  exact W.zret (v := 0) (ty := .boolean) hx hb hr (by decide) (fun t ht hW => ⟨0, rfl, rfl, ht⟩) (fun q h => by cases h) dX3_holdsRow_21
set_option maxHeartbeats 4000000 in
set_option maxRecDepth 100000 in
theorem c_X3_holdsUnlikeRows (l : Launch) (D : va_G) (E : Nat → ClassId) (G : Nat → Nat) (a0 : Nat) (v_p : Int32) (v_q : Int32) (a0_held : Nat) (a0_size : Nat) (a0_cells : Nat) (hp : vp_in v_p 8) (hq : vp_in v_q 8) : Met l yX3_holdsUnlikeRows (oh_w yX3_holdsUnlikeRows cX3_holdsUnlikeRows 3 (some .boolean)) ({ frames := 2, cells := 0, slots := 0, locals := 42 }) (oh_Pp D E G [.ref a0, .int v_p, .int v_q] [(a0, .inr (3, [.ref a0_held, .ref a0_size, .ref a0_cells])), (a0_held, .inl (E 0, 8, .inl (fun _ => (-1))))]) (vp_Si (fun r => r = 0)) 0 0 (fun _ => False) := by
  refine Met.ofW (cc := cX3_holdsUnlikeRows) (maxL := 3) (ret := (some .boolean)) (by decide) rfl ?_
  intro p e s m args below meth c s₁ B hml hv
  obtain ⟨rfl, hP, hK, hG⟩ := hv
  have hx := B.exec
  have hb := B.bytes
  have hr := B.returns
  have hts := atoms_spec (ws := (oh_w yX3_holdsUnlikeRows cX3_holdsUnlikeRows 3 (some .boolean))) B.pre
  have htg : ∀ w ∈ oh_t, w.before _ s = true := fun w h => hts w (List.mem_cons_of_mem _ h)
  have hown : s.vm.findClass RX3 = some m.cls := findClass_of_methodNamed B.named
  have hlocks := B.notSynchronized
  have hS : va_S (fun _ => False) s.heap s.heap [] := va_S.rf
  have hl := lv_entry ([.ref a0, .int v_p, .int v_q]) (n := 3) (Nat.le_of_ble_eq_true rfl)
  rw [lg_entry_eq]
  generalize (lg_sl ([.ref a0, .int v_p, .int v_q]) ++ List.replicate (3 - (lg_sl ([.ref a0, .int v_p, .int v_q])).length) Slot.unset).toArray = ls at hl ⊢
  have hl : lv_has ls 3 [(0, .ref a0), (1, .int v_p), (2, .int v_q)] := hl
  refine lv_aload_n hx hb dX3_holdsUnlikeRows_0 rfl (lv_at hl 0 rfl) ?_
  refine lv_iload_n hx hb dX3_holdsUnlikeRows_1 rfl (lv_at hl 1 rfl) ?_
  refine oh_pV (As := [.int v_p]) (rest := []) (v := 0) ⟨hx, hb, hml, hown, htg⟩ (c_X3_holdsRow l D E G a0 v_p a0_held a0_size a0_cells hp) (cwV 1 htg (oh_gV q_335 q_336 q_337 q_70 q_338) rfl rfl rfl pdVX3_holdsRow ⟨Nat.le_of_ble_eq_true rfl, Nat.le_of_ble_eq_true rfl⟩) hK (hP.sub (ws' := [(a0, .inr (3, [.ref a0_held, .ref a0_size, .ref a0_cells])), (a0_held, .inl (E 0, 8, .inl (fun _ => (-1))))]) [0, 1] rfl) hG hS (va_recv hK hP (ci := 3) (q0 := 0) rfl rfl) rfl hl.1 rfl (Nat.le_of_ble_eq_true rfl) dX3_holdsUnlikeRows_2 ⟨Nat.le_of_ble_eq_true rfl, Nat.le_of_ble_eq_true rfl⟩ ?_
  refine lv_if_eq (tgt := 35) hx hb dX3_holdsUnlikeRows_5 (by decide) (fun _ => ?_) (fun c => absurd (show (0 : Int32) = 0 from by decide) c)
  refine lv_iconst (v := 0) hx hb dX3_holdsUnlikeRows_35 (by decide) ?_
  exact W.zret (v := 0) (ty := .boolean) hx hb hr (by decide) (fun t ht hW => ⟨0, rfl, rfl, ht⟩) (fun q h => by cases h) dX3_holdsUnlikeRows_36
set_option maxHeartbeats 4000000 in
set_option maxRecDepth 100000 in
theorem c_X3_countHeld (l : Launch) (D : va_G) (E : Nat → ClassId) (G : Nat → Nat) (a0 : Nat) (a0_held : Nat) (a0_size : Nat) (a0_cells : Nat) : Met l yX3_countHeld (oh_w yX3_countHeld cX3_countHeld 3 (some .int)) ({ frames := 1, cells := 0, slots := 0, locals := 21 }) (oh_Pp D E G [.ref a0] [(a0, .inr (3, [.ref a0_held, .ref a0_size, .ref a0_cells])), (a0_held, .inl (E 0, 8, .inl (fun _ => (-1))))]) (vp_Si (fun r => r = 0)) 0 0 (fun _ => False) := by
  refine Met.ofW (cc := cX3_countHeld) (maxL := 3) (ret := (some .int)) (by decide) rfl ?_
  intro p e s m args below meth c s₁ B hml hv
  obtain ⟨rfl, hP, hK, hG⟩ := hv
  have hx := B.exec
  have hb := B.bytes
  have hr := B.returns
  have hts := atoms_spec (ws := (oh_w yX3_countHeld cX3_countHeld 3 (some .int))) B.pre
  have htg : ∀ w ∈ oh_t, w.before _ s = true := fun w h => hts w (List.mem_cons_of_mem _ h)
  have hown : s.vm.findClass RX3 = some m.cls := findClass_of_methodNamed B.named
  have hlocks := B.notSynchronized
  have hS : va_S (fun _ => False) s.heap s.heap [] := va_S.rf
  have hl := lv_entry ([.ref a0]) (n := 3) (Nat.le_of_ble_eq_true rfl)
  rw [lg_entry_eq]
  generalize (lg_sl ([.ref a0]) ++ List.replicate (3 - (lg_sl ([.ref a0])).length) Slot.unset).toArray = ls at hl ⊢
  have hl : lv_has ls 3 [(0, .ref a0)] := hl
  refine lv_iconst (v := 0) hx hb dX3_countHeld_0 (by decide) ?_
  refine lv_istore_n (lv' := [(1, .int 0), (0, .ref a0)]) hx hb dX3_countHeld_1 rfl hl (by decide) rfl (fun ls hl => ?_)
  refine lv_iconst (v := 0) hx hb dX3_countHeld_2 (by decide) ?_
  refine lv_istore_n (lv' := [(2, .int 0), (1, .int 0), (0, .ref a0)]) hx hb dX3_countHeld_3 rfl hl (by decide) rfl (fun ls hl => ?_)
  refine lv_iload_n hx hb dX3_countHeld_4 rfl (lv_at hl 0 rfl) ?_
  refine lv_bipush (v := 8) hx hb dX3_countHeld_5 (by decide) ?_
  refine lv_icmp_ge (tgt := 27) hx hb dX3_countHeld_7 (by decide) (fun c => absurd c (show ¬ (8 ≤ (0 : Int32)) from by decide)) (fun _ => ?_)
  refine lv_aload_n hx hb dX3_countHeld_10 rfl (lv_at hl 2 rfl) ?_
  refine lv_iload_n hx hb dX3_countHeld_11 rfl (lv_at hl 0 rfl) ?_
  refine oh_pV (As := [.int 0]) (rest := []) (v := 1) ⟨hx, hb, hml, hown, htg⟩ (c_X3_holdsNothing l D E G a0 0 a0_held a0_size a0_cells (show vp_in 0 8 by unfold vp_in; decide)) (cwV 1 htg (oh_gV q_339 q_317 q_318 q_70 q_319) rfl rfl rfl pdVX3_holdsNothing ⟨Nat.le_of_ble_eq_true rfl, Nat.le_of_ble_eq_true rfl⟩) hK (hP.sub (ws' := [(a0, .inr (3, [.ref a0_held, .ref a0_size, .ref a0_cells])), (a0_held, .inl (E 0, 8, .inl (fun _ => (-1))))]) [0, 1] rfl) hG hS (va_recv hK hP (ci := 3) (q0 := 0) rfl rfl) rfl hl.1 rfl (Nat.le_of_ble_eq_true rfl) dX3_countHeld_12 ⟨Nat.le_of_ble_eq_true rfl, Nat.le_of_ble_eq_true rfl⟩ ?_
  refine lv_if_ne (tgt := 21) hx hb dX3_countHeld_15 (by decide) (fun _ => ?_) (fun c => absurd c (show ¬ ((1 : Int32) = 0) from by decide))
  refine lv_iinc (v := 1) (lv' := [(2, .int 1), (1, .int 0), (0, .ref a0)]) hx hb dX3_countHeld_21 hl (k := 0) rfl (by decide) (by decide) rfl (fun ls hl => ?_)
  refine lv_goto (tgt := 4) hx hb dX3_countHeld_24 (by decide) ?_
  refine lv_iload_n hx hb dX3_countHeld_4 rfl (lv_at hl 0 rfl) ?_
  refine lv_bipush (v := 8) hx hb dX3_countHeld_5 (by decide) ?_
  refine lv_icmp_ge (tgt := 27) hx hb dX3_countHeld_7 (by decide) (fun c => absurd c (show ¬ (8 ≤ (1 : Int32)) from by decide)) (fun _ => ?_)
  refine lv_aload_n hx hb dX3_countHeld_10 rfl (lv_at hl 2 rfl) ?_
  refine lv_iload_n hx hb dX3_countHeld_11 rfl (lv_at hl 0 rfl) ?_
  refine oh_pV (As := [.int 1]) (rest := []) (v := 1) ⟨hx, hb, hml, hown, htg⟩ (c_X3_holdsNothing l D E G a0 1 a0_held a0_size a0_cells (show vp_in 1 8 by unfold vp_in; decide)) (cwV 1 htg (oh_gV q_339 q_317 q_318 q_70 q_319) rfl rfl rfl pdVX3_holdsNothing ⟨Nat.le_of_ble_eq_true rfl, Nat.le_of_ble_eq_true rfl⟩) hK (hP.sub (ws' := [(a0, .inr (3, [.ref a0_held, .ref a0_size, .ref a0_cells])), (a0_held, .inl (E 0, 8, .inl (fun _ => (-1))))]) [0, 1] rfl) hG hS (va_recv hK hP (ci := 3) (q0 := 0) rfl rfl) rfl hl.1 rfl (Nat.le_of_ble_eq_true rfl) dX3_countHeld_12 ⟨Nat.le_of_ble_eq_true rfl, Nat.le_of_ble_eq_true rfl⟩ ?_
  refine lv_if_ne (tgt := 21) hx hb dX3_countHeld_15 (by decide) (fun _ => ?_) (fun c => absurd c (show ¬ ((1 : Int32) = 0) from by decide))
  refine lv_iinc (v := 2) (lv' := [(2, .int 2), (1, .int 0), (0, .ref a0)]) hx hb dX3_countHeld_21 hl (k := 0) rfl (by decide) (by decide) rfl (fun ls hl => ?_)
  refine lv_goto (tgt := 4) hx hb dX3_countHeld_24 (by decide) ?_
  refine lv_iload_n hx hb dX3_countHeld_4 rfl (lv_at hl 0 rfl) ?_
  refine lv_bipush (v := 8) hx hb dX3_countHeld_5 (by decide) ?_
  refine lv_icmp_ge (tgt := 27) hx hb dX3_countHeld_7 (by decide) (fun c => absurd c (show ¬ (8 ≤ (2 : Int32)) from by decide)) (fun _ => ?_)
  refine lv_aload_n hx hb dX3_countHeld_10 rfl (lv_at hl 2 rfl) ?_
  refine lv_iload_n hx hb dX3_countHeld_11 rfl (lv_at hl 0 rfl) ?_
  refine oh_pV (As := [.int 2]) (rest := []) (v := 1) ⟨hx, hb, hml, hown, htg⟩ (c_X3_holdsNothing l D E G a0 2 a0_held a0_size a0_cells (show vp_in 2 8 by unfold vp_in; decide)) (cwV 1 htg (oh_gV q_339 q_317 q_318 q_70 q_319) rfl rfl rfl pdVX3_holdsNothing ⟨Nat.le_of_ble_eq_true rfl, Nat.le_of_ble_eq_true rfl⟩) hK (hP.sub (ws' := [(a0, .inr (3, [.ref a0_held, .ref a0_size, .ref a0_cells])), (a0_held, .inl (E 0, 8, .inl (fun _ => (-1))))]) [0, 1] rfl) hG hS (va_recv hK hP (ci := 3) (q0 := 0) rfl rfl) rfl hl.1 rfl (Nat.le_of_ble_eq_true rfl) dX3_countHeld_12 ⟨Nat.le_of_ble_eq_true rfl, Nat.le_of_ble_eq_true rfl⟩ ?_
  refine lv_if_ne (tgt := 21) hx hb dX3_countHeld_15 (by decide) (fun _ => ?_) (fun c => absurd c (show ¬ ((1 : Int32) = 0) from by decide))
  refine lv_iinc (v := 3) (lv' := [(2, .int 3), (1, .int 0), (0, .ref a0)]) hx hb dX3_countHeld_21 hl (k := 0) rfl (by decide) (by decide) rfl (fun ls hl => ?_)
  refine lv_goto (tgt := 4) hx hb dX3_countHeld_24 (by decide) ?_
  refine lv_iload_n hx hb dX3_countHeld_4 rfl (lv_at hl 0 rfl) ?_
  refine lv_bipush (v := 8) hx hb dX3_countHeld_5 (by decide) ?_
  refine lv_icmp_ge (tgt := 27) hx hb dX3_countHeld_7 (by decide) (fun c => absurd c (show ¬ (8 ≤ (3 : Int32)) from by decide)) (fun _ => ?_)
  refine lv_aload_n hx hb dX3_countHeld_10 rfl (lv_at hl 2 rfl) ?_
  refine lv_iload_n hx hb dX3_countHeld_11 rfl (lv_at hl 0 rfl) ?_
  refine oh_pV (As := [.int 3]) (rest := []) (v := 1) ⟨hx, hb, hml, hown, htg⟩ (c_X3_holdsNothing l D E G a0 3 a0_held a0_size a0_cells (show vp_in 3 8 by unfold vp_in; decide)) (cwV 1 htg (oh_gV q_339 q_317 q_318 q_70 q_319) rfl rfl rfl pdVX3_holdsNothing ⟨Nat.le_of_ble_eq_true rfl, Nat.le_of_ble_eq_true rfl⟩) hK (hP.sub (ws' := [(a0, .inr (3, [.ref a0_held, .ref a0_size, .ref a0_cells])), (a0_held, .inl (E 0, 8, .inl (fun _ => (-1))))]) [0, 1] rfl) hG hS (va_recv hK hP (ci := 3) (q0 := 0) rfl rfl) rfl hl.1 rfl (Nat.le_of_ble_eq_true rfl) dX3_countHeld_12 ⟨Nat.le_of_ble_eq_true rfl, Nat.le_of_ble_eq_true rfl⟩ ?_
  refine lv_if_ne (tgt := 21) hx hb dX3_countHeld_15 (by decide) (fun _ => ?_) (fun c => absurd c (show ¬ ((1 : Int32) = 0) from by decide))
  refine lv_iinc (v := 4) (lv' := [(2, .int 4), (1, .int 0), (0, .ref a0)]) hx hb dX3_countHeld_21 hl (k := 0) rfl (by decide) (by decide) rfl (fun ls hl => ?_)
  refine lv_goto (tgt := 4) hx hb dX3_countHeld_24 (by decide) ?_
  refine lv_iload_n hx hb dX3_countHeld_4 rfl (lv_at hl 0 rfl) ?_
  refine lv_bipush (v := 8) hx hb dX3_countHeld_5 (by decide) ?_
  refine lv_icmp_ge (tgt := 27) hx hb dX3_countHeld_7 (by decide) (fun c => absurd c (show ¬ (8 ≤ (4 : Int32)) from by decide)) (fun _ => ?_)
  refine lv_aload_n hx hb dX3_countHeld_10 rfl (lv_at hl 2 rfl) ?_
  refine lv_iload_n hx hb dX3_countHeld_11 rfl (lv_at hl 0 rfl) ?_
  refine oh_pV (As := [.int 4]) (rest := []) (v := 1) ⟨hx, hb, hml, hown, htg⟩ (c_X3_holdsNothing l D E G a0 4 a0_held a0_size a0_cells (show vp_in 4 8 by unfold vp_in; decide)) (cwV 1 htg (oh_gV q_339 q_317 q_318 q_70 q_319) rfl rfl rfl pdVX3_holdsNothing ⟨Nat.le_of_ble_eq_true rfl, Nat.le_of_ble_eq_true rfl⟩) hK (hP.sub (ws' := [(a0, .inr (3, [.ref a0_held, .ref a0_size, .ref a0_cells])), (a0_held, .inl (E 0, 8, .inl (fun _ => (-1))))]) [0, 1] rfl) hG hS (va_recv hK hP (ci := 3) (q0 := 0) rfl rfl) rfl hl.1 rfl (Nat.le_of_ble_eq_true rfl) dX3_countHeld_12 ⟨Nat.le_of_ble_eq_true rfl, Nat.le_of_ble_eq_true rfl⟩ ?_
  refine lv_if_ne (tgt := 21) hx hb dX3_countHeld_15 (by decide) (fun _ => ?_) (fun c => absurd c (show ¬ ((1 : Int32) = 0) from by decide))
  refine lv_iinc (v := 5) (lv' := [(2, .int 5), (1, .int 0), (0, .ref a0)]) hx hb dX3_countHeld_21 hl (k := 0) rfl (by decide) (by decide) rfl (fun ls hl => ?_)
  refine lv_goto (tgt := 4) hx hb dX3_countHeld_24 (by decide) ?_
  refine lv_iload_n hx hb dX3_countHeld_4 rfl (lv_at hl 0 rfl) ?_
  refine lv_bipush (v := 8) hx hb dX3_countHeld_5 (by decide) ?_
  refine lv_icmp_ge (tgt := 27) hx hb dX3_countHeld_7 (by decide) (fun c => absurd c (show ¬ (8 ≤ (5 : Int32)) from by decide)) (fun _ => ?_)
  refine lv_aload_n hx hb dX3_countHeld_10 rfl (lv_at hl 2 rfl) ?_
  refine lv_iload_n hx hb dX3_countHeld_11 rfl (lv_at hl 0 rfl) ?_
  refine oh_pV (As := [.int 5]) (rest := []) (v := 1) ⟨hx, hb, hml, hown, htg⟩ (c_X3_holdsNothing l D E G a0 5 a0_held a0_size a0_cells (show vp_in 5 8 by unfold vp_in; decide)) (cwV 1 htg (oh_gV q_339 q_317 q_318 q_70 q_319) rfl rfl rfl pdVX3_holdsNothing ⟨Nat.le_of_ble_eq_true rfl, Nat.le_of_ble_eq_true rfl⟩) hK (hP.sub (ws' := [(a0, .inr (3, [.ref a0_held, .ref a0_size, .ref a0_cells])), (a0_held, .inl (E 0, 8, .inl (fun _ => (-1))))]) [0, 1] rfl) hG hS (va_recv hK hP (ci := 3) (q0 := 0) rfl rfl) rfl hl.1 rfl (Nat.le_of_ble_eq_true rfl) dX3_countHeld_12 ⟨Nat.le_of_ble_eq_true rfl, Nat.le_of_ble_eq_true rfl⟩ ?_
  refine lv_if_ne (tgt := 21) hx hb dX3_countHeld_15 (by decide) (fun _ => ?_) (fun c => absurd c (show ¬ ((1 : Int32) = 0) from by decide))
  refine lv_iinc (v := 6) (lv' := [(2, .int 6), (1, .int 0), (0, .ref a0)]) hx hb dX3_countHeld_21 hl (k := 0) rfl (by decide) (by decide) rfl (fun ls hl => ?_)
  refine lv_goto (tgt := 4) hx hb dX3_countHeld_24 (by decide) ?_
  refine lv_iload_n hx hb dX3_countHeld_4 rfl (lv_at hl 0 rfl) ?_
  refine lv_bipush (v := 8) hx hb dX3_countHeld_5 (by decide) ?_
  refine lv_icmp_ge (tgt := 27) hx hb dX3_countHeld_7 (by decide) (fun c => absurd c (show ¬ (8 ≤ (6 : Int32)) from by decide)) (fun _ => ?_)
  refine lv_aload_n hx hb dX3_countHeld_10 rfl (lv_at hl 2 rfl) ?_
  refine lv_iload_n hx hb dX3_countHeld_11 rfl (lv_at hl 0 rfl) ?_
  refine oh_pV (As := [.int 6]) (rest := []) (v := 1) ⟨hx, hb, hml, hown, htg⟩ (c_X3_holdsNothing l D E G a0 6 a0_held a0_size a0_cells (show vp_in 6 8 by unfold vp_in; decide)) (cwV 1 htg (oh_gV q_339 q_317 q_318 q_70 q_319) rfl rfl rfl pdVX3_holdsNothing ⟨Nat.le_of_ble_eq_true rfl, Nat.le_of_ble_eq_true rfl⟩) hK (hP.sub (ws' := [(a0, .inr (3, [.ref a0_held, .ref a0_size, .ref a0_cells])), (a0_held, .inl (E 0, 8, .inl (fun _ => (-1))))]) [0, 1] rfl) hG hS (va_recv hK hP (ci := 3) (q0 := 0) rfl rfl) rfl hl.1 rfl (Nat.le_of_ble_eq_true rfl) dX3_countHeld_12 ⟨Nat.le_of_ble_eq_true rfl, Nat.le_of_ble_eq_true rfl⟩ ?_
  refine lv_if_ne (tgt := 21) hx hb dX3_countHeld_15 (by decide) (fun _ => ?_) (fun c => absurd c (show ¬ ((1 : Int32) = 0) from by decide))
  refine lv_iinc (v := 7) (lv' := [(2, .int 7), (1, .int 0), (0, .ref a0)]) hx hb dX3_countHeld_21 hl (k := 0) rfl (by decide) (by decide) rfl (fun ls hl => ?_)
  refine lv_goto (tgt := 4) hx hb dX3_countHeld_24 (by decide) ?_
  refine lv_iload_n hx hb dX3_countHeld_4 rfl (lv_at hl 0 rfl) ?_
  refine lv_bipush (v := 8) hx hb dX3_countHeld_5 (by decide) ?_
  refine lv_icmp_ge (tgt := 27) hx hb dX3_countHeld_7 (by decide) (fun c => absurd c (show ¬ (8 ≤ (7 : Int32)) from by decide)) (fun _ => ?_)
  refine lv_aload_n hx hb dX3_countHeld_10 rfl (lv_at hl 2 rfl) ?_
  refine lv_iload_n hx hb dX3_countHeld_11 rfl (lv_at hl 0 rfl) ?_
  refine oh_pV (As := [.int 7]) (rest := []) (v := 1) ⟨hx, hb, hml, hown, htg⟩ (c_X3_holdsNothing l D E G a0 7 a0_held a0_size a0_cells (show vp_in 7 8 by unfold vp_in; decide)) (cwV 1 htg (oh_gV q_339 q_317 q_318 q_70 q_319) rfl rfl rfl pdVX3_holdsNothing ⟨Nat.le_of_ble_eq_true rfl, Nat.le_of_ble_eq_true rfl⟩) hK (hP.sub (ws' := [(a0, .inr (3, [.ref a0_held, .ref a0_size, .ref a0_cells])), (a0_held, .inl (E 0, 8, .inl (fun _ => (-1))))]) [0, 1] rfl) hG hS (va_recv hK hP (ci := 3) (q0 := 0) rfl rfl) rfl hl.1 rfl (Nat.le_of_ble_eq_true rfl) dX3_countHeld_12 ⟨Nat.le_of_ble_eq_true rfl, Nat.le_of_ble_eq_true rfl⟩ ?_
  refine lv_if_ne (tgt := 21) hx hb dX3_countHeld_15 (by decide) (fun _ => ?_) (fun c => absurd c (show ¬ ((1 : Int32) = 0) from by decide))
  refine lv_iinc (v := 8) (lv' := [(2, .int 8), (1, .int 0), (0, .ref a0)]) hx hb dX3_countHeld_21 hl (k := 0) rfl (by decide) (by decide) rfl (fun ls hl => ?_)
  refine lv_goto (tgt := 4) hx hb dX3_countHeld_24 (by decide) ?_
  refine lv_iload_n hx hb dX3_countHeld_4 rfl (lv_at hl 0 rfl) ?_
  refine lv_bipush (v := 8) hx hb dX3_countHeld_5 (by decide) ?_
  refine lv_icmp_ge (tgt := 27) hx hb dX3_countHeld_7 (by decide) (fun _ => ?_) (fun c => absurd (show 8 ≤ (8 : Int32) from by decide) c)
  refine lv_iload_n hx hb dX3_countHeld_27 rfl (lv_at hl 1 rfl) ?_
  exact W.iret (v := 0) hx hb hr (fun t ht hW => ⟨0, rfl, rfl, ht⟩) (fun q h => by cases h) dX3_countHeld_28
set_option maxHeartbeats 4000000 in
set_option maxRecDepth 100000 in
theorem c_X0_hasRoom0 (l : Launch) (D : va_G) (E : Nat → ClassId) (G : Nat → Nat) (a0 : Nat) (a0_counts : Nat) (a0_roads : Nat) (a0_bridges : Nat) (a0_waggons : Nat) (a0_parts : Nat) (a0_settings : Nat) (a0_trip : Nat) : Met l yX0_hasRoom (oh_w yX0_hasRoom cX0_hasRoom 2 (some .boolean)) ({ frames := 0, cells := 0, slots := 0, locals := 0 }) (oh_Pp D E G [.ref a0, .int 0] [(a0, .inr (0, [.ref a0_counts, .ref a0_roads, .ref a0_bridges, .ref a0_waggons, .ref a0_parts, .ref a0_settings, .ref a0_trip, .int 0])), (a0_counts, .inl (E 0, 4, .inl (fun _ => 0)))]) (vp_Si (fun r => r = 1)) 0 0 (fun _ => False) := by
  refine Met.ofW (cc := cX0_hasRoom) (maxL := 2) (ret := (some .boolean)) (by decide) rfl ?_
  intro p e s m args below meth c s₁ B hml hv
  obtain ⟨rfl, hP, hK, hG⟩ := hv
  have hx := B.exec
  have hb := B.bytes
  have hr := B.returns
  have hts := atoms_spec (ws := (oh_w yX0_hasRoom cX0_hasRoom 2 (some .boolean))) B.pre
  have htg : ∀ w ∈ oh_t, w.before _ s = true := fun w h => hts w (List.mem_cons_of_mem _ h)
  have hown : s.vm.findClass RX0 = some m.cls := findClass_of_methodNamed B.named
  have hlocks := B.notSynchronized
  have hS : va_S (fun _ => False) s.heap s.heap [] := va_S.rf
  have hl := lv_entry ([.ref a0, .int 0]) (n := 2) (Nat.le_of_ble_eq_true rfl)
  rw [lg_entry_eq]
  generalize (lg_sl ([.ref a0, .int 0]) ++ List.replicate (2 - (lg_sl ([.ref a0, .int 0])).length) Slot.unset).toArray = ls at hl ⊢
  have hl : lv_has ls 2 [(0, .ref a0), (1, .int 0)] := hl
  refine lv_aload_n hx hb dX0_hasRoom_0 rfl (lv_at hl 0 rfl) ?_
  refine va_get (D := D) (ci := 0) (v := .ref a0_counts) (C := RX0) (T := TX0) (N := 8) hx hb htg ig_0 hown hK hP 0 rfl rfl 0 (by decide) (htg _ q_97) (fun _ h9 => h9) rfl dX0_hasRoom_1 ?_
  refine lv_iload_n hx hb dX0_hasRoom_4 rfl (lv_at hl 1 rfl) ?_
  refine va_iald hx hb hK hP 1 0 rfl rfl (show vp_in 0 4 by unfold vp_in; decide) dX0_hasRoom_5 ?_
  refine oh_nrm (v := 0) (by decide) ?_
  refine va_getsN hx hb hG.2.2.2.1.1 hS hown (va_Nw.use rfl (hG.2.1 ("OneHeavyLoad$Land", 9, "OneHeavyLoad", "ROOM", "[I", "OneHeavyLoad") (List.mem_of_getElem? (i := 0) rfl))) (fun _ h9 => h9) dX0_hasRoom_6 ?_
  refine lv_iload_n hx hb dX0_hasRoom_9 rfl (lv_at hl 1 rfl) ?_
  refine va_ti (v := .int 24) hx hb hG.2.2.2.1.2 hS (show vp_in 0 4 by unfold vp_in; decide) (by decide) dX0_hasRoom_10 ?_
  refine lv_icmp_ge (tgt := 18) hx hb dX0_hasRoom_11 (by decide) (fun c => absurd c (show ¬ (24 ≤ (0 : Int32)) from by decide)) (fun _ => ?_)
  refine lv_iconst (v := 1) hx hb dX0_hasRoom_14 (by decide) ?_
  refine lv_goto (tgt := 19) hx hb dX0_hasRoom_15 (by decide) ?_
  exact W.zret (v := 1) (ty := .boolean) hx hb hr (by decide) (fun t ht hW => ⟨1, rfl, rfl, ht⟩) (fun q h => by cases h) dX0_hasRoom_19
set_option maxHeartbeats 4000000 in
set_option maxRecDepth 100000 in
theorem c_X0_hasRoom2 (l : Launch) (D : va_G) (E : Nat → ClassId) (G : Nat → Nat) (a0 : Nat) (a0_counts : Nat) (a0_roads : Nat) (a0_bridges : Nat) (a0_waggons : Nat) (a0_parts : Nat) (a0_settings : Nat) (a0_trip : Nat) : Met l yX0_hasRoom (oh_w yX0_hasRoom cX0_hasRoom 2 (some .boolean)) ({ frames := 0, cells := 0, slots := 0, locals := 0 }) (oh_Pp D E G [.ref a0, .int 2] [(a0, .inr (0, [.ref a0_counts, .ref a0_roads, .ref a0_bridges, .ref a0_waggons, .ref a0_parts, .ref a0_settings, .ref a0_trip, .int 0])), (a0_counts, .inl (E 0, 4, .inl (fun _ => 0)))]) (vp_Si (fun r => r = 1)) 0 0 (fun _ => False) := by
  refine Met.ofW (cc := cX0_hasRoom) (maxL := 2) (ret := (some .boolean)) (by decide) rfl ?_
  intro p e s m args below meth c s₁ B hml hv
  obtain ⟨rfl, hP, hK, hG⟩ := hv
  have hx := B.exec
  have hb := B.bytes
  have hr := B.returns
  have hts := atoms_spec (ws := (oh_w yX0_hasRoom cX0_hasRoom 2 (some .boolean))) B.pre
  have htg : ∀ w ∈ oh_t, w.before _ s = true := fun w h => hts w (List.mem_cons_of_mem _ h)
  have hown : s.vm.findClass RX0 = some m.cls := findClass_of_methodNamed B.named
  have hlocks := B.notSynchronized
  have hS : va_S (fun _ => False) s.heap s.heap [] := va_S.rf
  have hl := lv_entry ([.ref a0, .int 2]) (n := 2) (Nat.le_of_ble_eq_true rfl)
  rw [lg_entry_eq]
  generalize (lg_sl ([.ref a0, .int 2]) ++ List.replicate (2 - (lg_sl ([.ref a0, .int 2])).length) Slot.unset).toArray = ls at hl ⊢
  have hl : lv_has ls 2 [(0, .ref a0), (1, .int 2)] := hl
  refine lv_aload_n hx hb dX0_hasRoom_0 rfl (lv_at hl 0 rfl) ?_
  refine va_get (D := D) (ci := 0) (v := .ref a0_counts) (C := RX0) (T := TX0) (N := 8) hx hb htg ig_0 hown hK hP 0 rfl rfl 0 (by decide) (htg _ q_97) (fun _ h9 => h9) rfl dX0_hasRoom_1 ?_
  refine lv_iload_n hx hb dX0_hasRoom_4 rfl (lv_at hl 1 rfl) ?_
  refine va_iald hx hb hK hP 1 0 rfl rfl (show vp_in 2 4 by unfold vp_in; decide) dX0_hasRoom_5 ?_
  refine oh_nrm (v := 0) (by decide) ?_
  refine va_getsN hx hb hG.2.2.2.1.1 hS hown (va_Nw.use rfl (hG.2.1 ("OneHeavyLoad$Land", 9, "OneHeavyLoad", "ROOM", "[I", "OneHeavyLoad") (List.mem_of_getElem? (i := 0) rfl))) (fun _ h9 => h9) dX0_hasRoom_6 ?_
  refine lv_iload_n hx hb dX0_hasRoom_9 rfl (lv_at hl 1 rfl) ?_
  refine va_ti (v := .int 5) hx hb hG.2.2.2.1.2 hS (show vp_in 2 4 by unfold vp_in; decide) (by decide) dX0_hasRoom_10 ?_
  refine lv_icmp_ge (tgt := 18) hx hb dX0_hasRoom_11 (by decide) (fun c => absurd c (show ¬ (5 ≤ (0 : Int32)) from by decide)) (fun _ => ?_)
  refine lv_iconst (v := 1) hx hb dX0_hasRoom_14 (by decide) ?_
  refine lv_goto (tgt := 19) hx hb dX0_hasRoom_15 (by decide) ?_
  exact W.zret (v := 1) (ty := .boolean) hx hb hr (by decide) (fun t ht hW => ⟨1, rfl, rfl, ht⟩) (fun q h => by cases h) dX0_hasRoom_19
set_option maxHeartbeats 4000000 in
set_option maxRecDepth 100000 in
theorem c_X0_hasRoom3 (l : Launch) (D : va_G) (E : Nat → ClassId) (G : Nat → Nat) (a0 : Nat) (a0_counts : Nat) (a0_roads : Nat) (a0_bridges : Nat) (a0_waggons : Nat) (a0_parts : Nat) (a0_settings : Nat) (a0_trip : Nat) : Met l yX0_hasRoom (oh_w yX0_hasRoom cX0_hasRoom 2 (some .boolean)) ({ frames := 0, cells := 0, slots := 0, locals := 0 }) (oh_Pp D E G [.ref a0, .int 3] [(a0, .inr (0, [.ref a0_counts, .ref a0_roads, .ref a0_bridges, .ref a0_waggons, .ref a0_parts, .ref a0_settings, .ref a0_trip, .int 0])), (a0_counts, .inl (E 0, 4, .inl (fun _ => 0)))]) (vp_Si (fun r => r = 1)) 0 0 (fun _ => False) := by
  refine Met.ofW (cc := cX0_hasRoom) (maxL := 2) (ret := (some .boolean)) (by decide) rfl ?_
  intro p e s m args below meth c s₁ B hml hv
  obtain ⟨rfl, hP, hK, hG⟩ := hv
  have hx := B.exec
  have hb := B.bytes
  have hr := B.returns
  have hts := atoms_spec (ws := (oh_w yX0_hasRoom cX0_hasRoom 2 (some .boolean))) B.pre
  have htg : ∀ w ∈ oh_t, w.before _ s = true := fun w h => hts w (List.mem_cons_of_mem _ h)
  have hown : s.vm.findClass RX0 = some m.cls := findClass_of_methodNamed B.named
  have hlocks := B.notSynchronized
  have hS : va_S (fun _ => False) s.heap s.heap [] := va_S.rf
  have hl := lv_entry ([.ref a0, .int 3]) (n := 2) (Nat.le_of_ble_eq_true rfl)
  rw [lg_entry_eq]
  generalize (lg_sl ([.ref a0, .int 3]) ++ List.replicate (2 - (lg_sl ([.ref a0, .int 3])).length) Slot.unset).toArray = ls at hl ⊢
  have hl : lv_has ls 2 [(0, .ref a0), (1, .int 3)] := hl
  refine lv_aload_n hx hb dX0_hasRoom_0 rfl (lv_at hl 0 rfl) ?_
  refine va_get (D := D) (ci := 0) (v := .ref a0_counts) (C := RX0) (T := TX0) (N := 8) hx hb htg ig_0 hown hK hP 0 rfl rfl 0 (by decide) (htg _ q_97) (fun _ h9 => h9) rfl dX0_hasRoom_1 ?_
  refine lv_iload_n hx hb dX0_hasRoom_4 rfl (lv_at hl 1 rfl) ?_
  refine va_iald hx hb hK hP 1 0 rfl rfl (show vp_in 3 4 by unfold vp_in; decide) dX0_hasRoom_5 ?_
  refine oh_nrm (v := 0) (by decide) ?_
  refine va_getsN hx hb hG.2.2.2.1.1 hS hown (va_Nw.use rfl (hG.2.1 ("OneHeavyLoad$Land", 9, "OneHeavyLoad", "ROOM", "[I", "OneHeavyLoad") (List.mem_of_getElem? (i := 0) rfl))) (fun _ h9 => h9) dX0_hasRoom_6 ?_
  refine lv_iload_n hx hb dX0_hasRoom_9 rfl (lv_at hl 1 rfl) ?_
  refine va_ti (v := .int 5) hx hb hG.2.2.2.1.2 hS (show vp_in 3 4 by unfold vp_in; decide) (by decide) dX0_hasRoom_10 ?_
  refine lv_icmp_ge (tgt := 18) hx hb dX0_hasRoom_11 (by decide) (fun c => absurd c (show ¬ (5 ≤ (0 : Int32)) from by decide)) (fun _ => ?_)
  refine lv_iconst (v := 1) hx hb dX0_hasRoom_14 (by decide) ?_
  refine lv_goto (tgt := 19) hx hb dX0_hasRoom_15 (by decide) ?_
  exact W.zret (v := 1) (ty := .boolean) hx hb hr (by decide) (fun t ht hW => ⟨1, rfl, rfl, ht⟩) (fun q h => by cases h) dX0_hasRoom_19
set_option maxHeartbeats 4000000 in
set_option maxRecDepth 100000 in
theorem c_X0_countBridges (l : Launch) (D : va_G) (E : Nat → ClassId) (G : Nat → Nat) (a0 : Nat) (v_c : Int32) (a0_counts : Nat) (a0_roads : Nat) (a0_bridges : Nat) (a0_waggons : Nat) (a0_parts : Nat) (a0_settings : Nat) (a0_trip : Nat) : Met l yX0_countBridges (oh_w yX0_countBridges cX0_countBridges 4 (some .int)) ({ frames := 0, cells := 0, slots := 0, locals := 0 }) (oh_Pp D E G [.ref a0, .int v_c] [(a0, .inr (0, [.ref a0_counts, .ref a0_roads, .ref a0_bridges, .ref a0_waggons, .ref a0_parts, .ref a0_settings, .ref a0_trip, .int 0])), (a0_counts, .inl (E 0, 4, .inl (fun _ => 0)))]) (vp_Si (fun r => r = 0)) 0 0 (fun _ => False) := by
  refine Met.ofW (cc := cX0_countBridges) (maxL := 4) (ret := (some .int)) (by decide) rfl ?_
  intro p e s m args below meth c s₁ B hml hv
  obtain ⟨rfl, hP, hK, hG⟩ := hv
  have hx := B.exec
  have hb := B.bytes
  have hr := B.returns
  have hts := atoms_spec (ws := (oh_w yX0_countBridges cX0_countBridges 4 (some .int))) B.pre
  have htg : ∀ w ∈ oh_t, w.before _ s = true := fun w h => hts w (List.mem_cons_of_mem _ h)
  have hown : s.vm.findClass RX0 = some m.cls := findClass_of_methodNamed B.named
  have hlocks := B.notSynchronized
  have hS : va_S (fun _ => False) s.heap s.heap [] := va_S.rf
  have hl := lv_entry ([.ref a0, .int v_c]) (n := 4) (Nat.le_of_ble_eq_true rfl)
  rw [lg_entry_eq]
  generalize (lg_sl ([.ref a0, .int v_c]) ++ List.replicate (4 - (lg_sl ([.ref a0, .int v_c])).length) Slot.unset).toArray = ls at hl ⊢
  have hl : lv_has ls 4 [(0, .ref a0), (1, .int v_c)] := hl
  refine lv_iconst (v := 0) hx hb dX0_countBridges_0 (by decide) ?_
  refine lv_istore_n (lv' := [(2, .int 0), (0, .ref a0), (1, .int v_c)]) hx hb dX0_countBridges_1 rfl hl (by decide) rfl (fun ls hl => ?_)
  refine lv_iconst (v := 0) hx hb dX0_countBridges_2 (by decide) ?_
  refine lv_istore_n (lv' := [(3, .int 0), (2, .int 0), (0, .ref a0), (1, .int v_c)]) hx hb dX0_countBridges_3 rfl hl (by decide) rfl (fun ls hl => ?_)
  refine lv_iload_n hx hb dX0_countBridges_4 rfl (lv_at hl 0 rfl) ?_
  refine lv_aload_n hx hb dX0_countBridges_5 rfl (lv_at hl 2 rfl) ?_
  refine va_get (D := D) (ci := 0) (v := .ref a0_counts) (C := RX0) (T := TX0) (N := 8) hx hb htg ig_0 hown hK hP 0 rfl rfl 0 (by decide) (htg _ q_97) (fun _ h9 => h9) rfl dX0_countBridges_6 ?_
  refine lv_iconst (v := 1) hx hb dX0_countBridges_9 (by decide) ?_
  refine va_iald hx hb hK hP 1 0 rfl rfl (show vp_in 1 4 by unfold vp_in; decide) dX0_countBridges_10 ?_
  refine oh_nrm (v := 0) (by decide) ?_
  refine lv_icmp_ge (tgt := 29) hx hb dX0_countBridges_11 (by decide) (fun _ => ?_) (fun c => absurd (show 0 ≤ (0 : Int32) from by decide) c)
  refine lv_iload_n hx hb dX0_countBridges_29 rfl (lv_at hl 1 rfl) ?_
  exact W.iret (v := 0) hx hb hr (fun t ht hW => ⟨0, rfl, rfl, ht⟩) (fun q h => by cases h) dX0_countBridges_30
def fX6_whyNoRow (v_s : Int32) : Int32 :=
  if (fX6_within v_s 0 7) = 0 then (-2) else (-4)
set_option maxHeartbeats 4000000 in
set_option maxRecDepth 100000 in
theorem c_X6_whyNoRow (l : Launch) (D : va_G) (E : Nat → ClassId) (G : Nat → Nat) (a0 : Nat) (v_s : Int32) (a0_now : Nat) (a0_kept : Nat) (a0_ways : Nat) (a0_shelves : Nat) (a0_tape : Nat) (a0_reader : Nat) (a0_refusals : Nat) (a0_bestPack : Nat) (a0_shelves_held : Nat) (a0_shelves_size : Nat) (a0_shelves_cells : Nat) : Met l yX6_whyNoRow (oh_w yX6_whyNoRow cX6_whyNoRow 2 (some .int)) ({ frames := 2, cells := 0, slots := 0, locals := 42 }) (oh_Pp D E G [.ref a0, .int v_s] [(a0, .inr (6, [.ref a0_now, .ref a0_kept, .int 0, .ref a0_ways, .ref a0_shelves, .ref a0_tape, .ref a0_reader, .ref a0_refusals, .ref a0_bestPack])), (a0_shelves, .inr (3, [.ref a0_shelves_held, .ref a0_shelves_size, .ref a0_shelves_cells])), (a0_shelves_held, .inl (E 0, 8, .inl (fun _ => (-1))))]) (vp_Si (fun r => r = fX6_whyNoRow v_s)) 0 0 (fun _ => False) := by
  refine Met.ofW (cc := cX6_whyNoRow) (maxL := 2) (ret := (some .int)) (by decide) rfl ?_
  intro p e s m args below meth c s₁ B hml hv
  obtain ⟨rfl, hP, hK, hG⟩ := hv
  have hx := B.exec
  have hb := B.bytes
  have hr := B.returns
  have hts := atoms_spec (ws := (oh_w yX6_whyNoRow cX6_whyNoRow 2 (some .int))) B.pre
  have htg : ∀ w ∈ oh_t, w.before _ s = true := fun w h => hts w (List.mem_cons_of_mem _ h)
  have hown : s.vm.findClass RX6 = some m.cls := findClass_of_methodNamed B.named
  have hlocks := B.notSynchronized
  have hS : va_S (fun _ => False) s.heap s.heap [] := va_S.rf
  have hl := lv_entry ([.ref a0, .int v_s]) (n := 2) (Nat.le_of_ble_eq_true rfl)
  rw [lg_entry_eq]
  generalize (lg_sl ([.ref a0, .int v_s]) ++ List.replicate (2 - (lg_sl ([.ref a0, .int v_s])).length) Slot.unset).toArray = ls at hl ⊢
  have hl : lv_has ls 2 [(0, .ref a0), (1, .int v_s)] := hl
  refine lv_iload_n hx hb dX6_whyNoRow_0 rfl (lv_at hl 1 rfl) ?_
  refine oh_pS (As := [.int v_s]) (rest := []) (v := fX6_within v_s 0 7) ⟨hx, hb, hml, hown, htg⟩ (c_X6_isShelf l D E G v_s) (va_cwS 1 htg (oh_gS q_290 q_291 q_66 q_292) rfl rfl rfl pdX6_isShelf ⟨Nat.le_of_ble_eq_true rfl, Nat.le_of_ble_eq_true rfl⟩) hK (hP.sub (ws' := []) [] rfl) hG hS rfl hl.1 rfl (Nat.le_of_ble_eq_true rfl) dX6_whyNoRow_1 ⟨Nat.le_of_ble_eq_true rfl, Nat.le_of_ble_eq_true rfl⟩ ?_
  refine lv_if_ne (tgt := 10) hx hb dX6_whyNoRow_4 (by decide) (fun (c_1 : ¬ ((fX6_within v_s 0 7) = 0)) => ?_) (fun (c_1 : (fX6_within v_s 0 7) = 0) => ?_)
  · refine lv_aload_n hx hb dX6_whyNoRow_10 rfl (lv_at hl 0 rfl) ?_
    refine va_get (D := D) (ci := 6) (v := .ref a0_shelves) (C := RX6) (T := TX6) (N := 9) hx hb htg ig_6 hown hK hP 0 rfl rfl 4 (by decide) (htg _ q_262) (fun _ h9 => h9) rfl dX6_whyNoRow_11 ?_
    refine lv_iload_n hx hb dX6_whyNoRow_14 rfl (lv_at hl 1 rfl) ?_
    refine oh_pV (As := [.int v_s]) (rest := []) (v := 0) ⟨hx, hb, hml, hown, htg⟩ (c_X3_holdsBridge l D E G a0_shelves v_s a0_shelves_held a0_shelves_size a0_shelves_cells (oh_win c_1 (by decide))) (cwV 1 htg (oh_gV q_312 q_313 q_314 q_70 q_315) rfl rfl rfl pdVX3_holdsBridge ⟨Nat.le_of_ble_eq_true rfl, Nat.le_of_ble_eq_true rfl⟩) hK (hP.sub (ws' := [(a0_shelves, .inr (3, [.ref a0_shelves_held, .ref a0_shelves_size, .ref a0_shelves_cells])), (a0_shelves_held, .inl (E 0, 8, .inl (fun _ => (-1))))]) [1, 2] rfl) hG hS (va_recv hK hP (ci := 3) (q0 := 1) rfl rfl) rfl hl.1 rfl (Nat.le_of_ble_eq_true rfl) dX6_whyNoRow_15 ⟨Nat.le_of_ble_eq_true rfl, Nat.le_of_ble_eq_true rfl⟩ ?_
    refine lv_if_eq (tgt := 24) hx hb dX6_whyNoRow_18 (by decide) (fun _ => ?_) (fun c => absurd (show (0 : Int32) = 0 from by decide) c)
    refine lv_aload_n hx hb dX6_whyNoRow_24 rfl (lv_at hl 0 rfl) ?_
    refine va_get (D := D) (ci := 6) (v := .ref a0_shelves) (C := RX6) (T := TX6) (N := 9) hx hb htg ig_6 hown hK hP 0 rfl rfl 4 (by decide) (htg _ q_262) (fun _ h9 => h9) rfl dX6_whyNoRow_25 ?_
    refine lv_iload_n hx hb dX6_whyNoRow_28 rfl (lv_at hl 1 rfl) ?_
    refine oh_pV (As := [.int v_s]) (rest := []) (v := 1) ⟨hx, hb, hml, hown, htg⟩ (c_X3_holdsNothing l D E G a0_shelves v_s a0_shelves_held a0_shelves_size a0_shelves_cells (oh_win c_1 (by decide))) (cwV 1 htg (oh_gV q_316 q_317 q_318 q_70 q_319) rfl rfl rfl pdVX3_holdsNothing ⟨Nat.le_of_ble_eq_true rfl, Nat.le_of_ble_eq_true rfl⟩) hK (hP.sub (ws' := [(a0_shelves, .inr (3, [.ref a0_shelves_held, .ref a0_shelves_size, .ref a0_shelves_cells])), (a0_shelves_held, .inl (E 0, 8, .inl (fun _ => (-1))))]) [1, 2] rfl) hG hS (va_recv hK hP (ci := 3) (q0 := 1) rfl rfl) rfl hl.1 rfl (Nat.le_of_ble_eq_true rfl) dX6_whyNoRow_29 ⟨Nat.le_of_ble_eq_true rfl, Nat.le_of_ble_eq_true rfl⟩ ?_
    refine lv_if_eq (tgt := 40) hx hb dX6_whyNoRow_32 (by decide) (fun c => absurd c (show ¬ ((1 : Int32) = 0) from by decide)) (fun _ => ?_)
    refine lv_bipush (v := (-4)) hx hb dX6_whyNoRow_35 (by decide) ?_
    refine lv_goto (tgt := 41) hx hb dX6_whyNoRow_37 (by decide) ?_
    exact W.iret (v := (-4)) hx hb hr (fun t ht hW => ⟨(-4), rfl, by unfold fX6_whyNoRow; rw [if_neg c_1], ht⟩) (fun q h => by cases h) dX6_whyNoRow_41
  · refine lv_bipush (v := (-2)) hx hb dX6_whyNoRow_7 (by decide) ?_
    exact W.iret (v := (-2)) hx hb hr (fun t ht hW => ⟨(-2), rfl, by unfold fX6_whyNoRow; rw [if_pos c_1], ht⟩) (fun q h => by cases h) dX6_whyNoRow_9
theorem oh_why (v : Int32) : ¬ fX6_whyNoRow v = 0 := by
  unfold fX6_whyNoRow
  split <;> decide
set_option maxHeartbeats 4000000 in
set_option maxRecDepth 100000 in
theorem c_X6_whyNotTold (l : Launch) (D : va_G) (E : Nat → ClassId) (G : Nat → Nat) (a0 : Nat) (v_w : Int32) (v_k : Int32) (v_f : Int32) (v_s : Int32) (v_n : Int32) (a0_now : Nat) (a0_kept : Nat) (a0_ways : Nat) (a0_shelves : Nat) (a0_tape : Nat) (a0_reader : Nat) (a0_refusals : Nat) (a0_bestPack : Nat) (a0_now_counts : Nat) (a0_now_roads : Nat) (a0_now_bridges : Nat) (a0_now_waggons : Nat) (a0_now_parts : Nat) (a0_now_settings : Nat) (a0_now_trip : Nat) : Met l yX6_whyNotTold (oh_w yX6_whyNotTold cX6_whyNotTold 7 (some .int)) ({ frames := 3, cells := 0, slots := 0, locals := 65 }) (oh_Pp D E G [.ref a0, .int v_w, .int v_k, .int v_f, .int v_s, .int v_n] [(a0, .inr (6, [.ref a0_now, .ref a0_kept, .int 0, .ref a0_ways, .ref a0_shelves, .ref a0_tape, .ref a0_reader, .ref a0_refusals, .ref a0_bestPack])), (a0_now, .inr (0, [.ref a0_now_counts, .ref a0_now_roads, .ref a0_now_bridges, .ref a0_now_waggons, .ref a0_now_parts, .ref a0_now_settings, .ref a0_now_trip, .int 0])), (a0_now_counts, .inl (E 0, 4, .inl (fun _ => 0)))]) (vp_Si (fun r => r = (-2))) 0 0 (fun _ => False) := by
  refine Met.ofW (cc := cX6_whyNotTold) (maxL := 7) (ret := (some .int)) (by decide) rfl ?_
  intro p e s m args below meth c s₁ B hml hv
  obtain ⟨rfl, hP, hK, hG⟩ := hv
  have hx := B.exec
  have hb := B.bytes
  have hr := B.returns
  have hts := atoms_spec (ws := (oh_w yX6_whyNotTold cX6_whyNotTold 7 (some .int))) B.pre
  have htg : ∀ w ∈ oh_t, w.before _ s = true := fun w h => hts w (List.mem_cons_of_mem _ h)
  have hown : s.vm.findClass RX6 = some m.cls := findClass_of_methodNamed B.named
  have hlocks := B.notSynchronized
  have hS : va_S (fun _ => False) s.heap s.heap [] := va_S.rf
  have hl := lv_entry ([.ref a0, .int v_w, .int v_k, .int v_f, .int v_s, .int v_n]) (n := 7) (Nat.le_of_ble_eq_true rfl)
  rw [lg_entry_eq]
  generalize (lg_sl ([.ref a0, .int v_w, .int v_k, .int v_f, .int v_s, .int v_n]) ++ List.replicate (7 - (lg_sl ([.ref a0, .int v_w, .int v_k, .int v_f, .int v_s, .int v_n])).length) Slot.unset).toArray = ls at hl ⊢
  have hl : lv_has ls 7 [(0, .ref a0), (1, .int v_w), (2, .int v_k), (3, .int v_f), (4, .int v_s), (5, .int v_n)] := hl
  refine lv_aload_n hx hb dX6_whyNotTold_0 rfl (lv_at hl 0 rfl) ?_
  refine lv_iload_n hx hb dX6_whyNotTold_1 rfl (lv_at hl 1 rfl) ?_
  refine lv_iload_n hx hb dX6_whyNotTold_2 rfl (lv_at hl 2 rfl) ?_
  refine oh_pV (As := [.int v_w, .int v_k]) (rest := []) (v := 0) ⟨hx, hb, hml, hown, htg⟩ (c_X6_isPack l D E G a0 v_w v_k a0_now a0_kept a0_ways a0_shelves a0_tape a0_reader a0_refusals a0_bestPack a0_now_counts a0_now_roads a0_now_bridges a0_now_waggons a0_now_parts a0_now_settings a0_now_trip) (cwV 2 htg (oh_gV q_695 q_697 q_16 q_66 q_698) rfl rfl rfl pdVX6_isPack ⟨Nat.le_of_ble_eq_true rfl, Nat.le_of_ble_eq_true rfl⟩) hK (hP.sub (ws' := [(a0, .inr (6, [.ref a0_now, .ref a0_kept, .int 0, .ref a0_ways, .ref a0_shelves, .ref a0_tape, .ref a0_reader, .ref a0_refusals, .ref a0_bestPack])), (a0_now, .inr (0, [.ref a0_now_counts, .ref a0_now_roads, .ref a0_now_bridges, .ref a0_now_waggons, .ref a0_now_parts, .ref a0_now_settings, .ref a0_now_trip, .int 0])), (a0_now_counts, .inl (E 0, 4, .inl (fun _ => 0)))]) [0, 1, 2] rfl) hG hS (va_recv hK hP (ci := 6) (q0 := 0) rfl rfl) rfl hl.1 rfl (Nat.le_of_ble_eq_true rfl) dX6_whyNotTold_3 ⟨Nat.le_of_ble_eq_true rfl, Nat.le_of_ble_eq_true rfl⟩ ?_
  refine lv_if_eq (tgt := 35) hx hb dX6_whyNotTold_6 (by decide) (fun _ => ?_) (fun c => absurd (show (0 : Int32) = 0 from by decide) c)
  refine lv_bipush (v := (-2)) hx hb dX6_whyNotTold_35 (by decide) ?_
  exact W.iret (v := (-2)) hx hb hr (fun t ht hW => ⟨(-2), rfl, rfl, ht⟩) (fun q h => by cases h) dX6_whyNotTold_37
set_option maxHeartbeats 4000000 in
set_option maxRecDepth 100000 in
theorem c_X6_set (l : Launch) (D : va_G) (E : Nat → ClassId) (G : Nat → Nat) (sz : Nat) (a0 : Nat) (v_a : Int32) (v_b : Int32) (v_c : Int64) (a0_now : Nat) (a0_kept : Nat) (a0_ways : Nat) (a0_shelves : Nat) (a0_tape : Nat) (a0_reader : Nat) (a0_refusals : Nat) (a0_bestPack : Nat) (a0_shelves_held : Nat) (a0_shelves_size : Nat) (a0_shelves_cells : Nat) : Met l yX6_set (oh_w yX6_set cX6_set 6 (some .int)) ({ frames := 3, cells := 0, slots := 0, locals := 63 }) (oh_Pm D E G [.ref a0, .int v_a, .int v_b, .long v_c] [(a0, .inr (6, [.ref a0_now, .ref a0_kept, .int 0, .ref a0_ways, .ref a0_shelves, .ref a0_tape, .ref a0_reader, .ref a0_refusals, .ref a0_bestPack])), (a0_shelves, .inr (3, [.ref a0_shelves_held, .ref a0_shelves_size, .ref a0_shelves_cells])), (a0_shelves_held, .inl (E 0, 8, .inl (fun _ => (-1)))), (a0_refusals, .inl (E 0, 5, .inl (fun _ => 0)))] sz) (va_Qi (fun r (_ : Unit) => r = (fX6_whyNoRow v_a)) (oh_B D (va_A [(a0, .inr (6, [.ref a0_now, .ref a0_kept, .int 0, .ref a0_ways, .ref a0_shelves, .ref a0_tape, .ref a0_reader, .ref a0_refusals, .ref a0_bestPack])), (a0_shelves, .inr (3, [.ref a0_shelves_held, .ref a0_shelves_size, .ref a0_shelves_cells])), (a0_shelves_held, .inl (E 0, 8, .inl (fun _ => (-1)))), (a0_refusals, .inl (E 0, 5, .inl (fun _ => 0)))] sz) (fun _ => [])) (va_A [(a0, .inr (6, [.ref a0_now, .ref a0_kept, .int 0, .ref a0_ways, .ref a0_shelves, .ref a0_tape, .ref a0_reader, .ref a0_refusals, .ref a0_bestPack])), (a0_shelves, .inr (3, [.ref a0_shelves_held, .ref a0_shelves_size, .ref a0_shelves_cells])), (a0_shelves_held, .inl (E 0, 8, .inl (fun _ => (-1)))), (a0_refusals, .inl (E 0, 5, .inl (fun _ => 0)))] sz)) 0 0 (va_A [(a0, .inr (6, [.ref a0_now, .ref a0_kept, .int 0, .ref a0_ways, .ref a0_shelves, .ref a0_tape, .ref a0_reader, .ref a0_refusals, .ref a0_bestPack])), (a0_shelves, .inr (3, [.ref a0_shelves_held, .ref a0_shelves_size, .ref a0_shelves_cells])), (a0_shelves_held, .inl (E 0, 8, .inl (fun _ => (-1)))), (a0_refusals, .inl (E 0, 5, .inl (fun _ => 0)))] sz) := by
  refine Met.ofW (cc := cX6_set) (maxL := 6) (ret := (some .int)) (by decide) rfl ?_
  intro p e s m args below meth c s₁ B hml hv
  obtain ⟨rfl, hsz, hP, hK, hD0, hG⟩ := hv
  have hx := B.exec
  have hb := B.bytes
  have hr := B.returns
  have hts := atoms_spec (ws := (oh_w yX6_set cX6_set 6 (some .int))) B.pre
  have htg : ∀ w ∈ oh_t, w.before _ s = true := fun w h => hts w (List.mem_cons_of_mem _ h)
  have hown : s.vm.findClass RX6 = some m.cls := findClass_of_methodNamed B.named
  have hlocks := B.notSynchronized
  subst hsz
  have hD := hD0.self (sz := s.heap.size)
  generalize hAe : va_A [(a0, .inr (6, [.ref a0_now, .ref a0_kept, .int 0, .ref a0_ways, .ref a0_shelves, .ref a0_tape, .ref a0_reader, .ref a0_refusals, .ref a0_bestPack])), (a0_shelves, .inr (3, [.ref a0_shelves_held, .ref a0_shelves_size, .ref a0_shelves_cells])), (a0_shelves_held, .inl (E 0, 8, .inl (fun _ => (-1)))), (a0_refusals, .inl (E 0, 5, .inl (fun _ => 0)))] s.heap.size = A at hD hG ⊢
  have hA : ∀ q : Nat, s.heap.size ≤ q → A q := fun q h => by rw [← hAe]; exact Or.inr h
  have hS : va_S A s.heap s.heap [] := va_S.rf
  have hP : va_P D vwCl [(a0, .inr (6, [.ref a0_now, .ref a0_kept, .int 0, .ref a0_ways, .ref a0_shelves, .ref a0_tape, .ref a0_reader, .ref a0_refusals, .ref a0_bestPack])), (a0_shelves, .inr (3, [.ref a0_shelves_held, .ref a0_shelves_size, .ref a0_shelves_cells])), (a0_shelves_held, .inl (E 0, 8, .inl (fun _ => (-1)))), (a0_refusals, .inl (E 0, 5, .inl (fun _ => 0)))] s.heap := hP
  have hl := lv_entry ([.ref a0, .int v_a, .int v_b, .long v_c]) (n := 6) (Nat.le_of_ble_eq_true rfl)
  rw [lg_entry_eq]
  generalize (lg_sl ([.ref a0, .int v_a, .int v_b, .long v_c]) ++ List.replicate (6 - (lg_sl ([.ref a0, .int v_a, .int v_b, .long v_c])).length) Slot.unset).toArray = ls at hl ⊢
  have hl : lv_has ls 6 [(0, .ref a0), (1, .int v_a), (2, .int v_b), (3, .long v_c)] := hl
  refine lv_aload_n hx hb dX6_set_0 rfl (lv_at hl 0 rfl) ?_
  refine lv_iload_n hx hb dX6_set_1 rfl (lv_at hl 1 rfl) ?_
  refine oh_pV (As := [.int v_a]) (rest := []) (v := fX6_whyNoRow v_a) ⟨hx, hb, hml, hown, htg⟩ (c_X6_whyNoRow l D E G a0 v_a a0_now a0_kept a0_ways a0_shelves a0_tape a0_reader a0_refusals a0_bestPack a0_shelves_held a0_shelves_size a0_shelves_cells) (cwV 1 htg (oh_gV q_308 q_310 q_1 q_66 q_311) rfl rfl rfl pdVX6_whyNoRow ⟨Nat.le_of_ble_eq_true rfl, Nat.le_of_ble_eq_true rfl⟩) hK (hP.sub (ws' := [(a0, .inr (6, [.ref a0_now, .ref a0_kept, .int 0, .ref a0_ways, .ref a0_shelves, .ref a0_tape, .ref a0_reader, .ref a0_refusals, .ref a0_bestPack])), (a0_shelves, .inr (3, [.ref a0_shelves_held, .ref a0_shelves_size, .ref a0_shelves_cells])), (a0_shelves_held, .inl (E 0, 8, .inl (fun _ => (-1))))]) [0, 1, 2] rfl) hG hS (va_recv hK hP (ci := 6) (q0 := 0) rfl rfl) rfl hl.1 rfl (Nat.le_of_ble_eq_true rfl) dX6_set_2 ⟨Nat.le_of_ble_eq_true rfl, Nat.le_of_ble_eq_true rfl⟩ ?_
  refine lv_istore (lv' := [(5, .int (fX6_whyNoRow v_a)), (0, .ref a0), (1, .int v_a), (2, .int v_b), (3, .long v_c)]) hx hb dX6_set_5 hl (by decide) rfl (fun ls hl => ?_)
  refine lv_iload hx hb dX6_set_7 (lv_at hl 0 rfl) ?_
  refine lv_if_eq (tgt := 19) hx hb dX6_set_9 (by decide) (fun c => absurd c (show ¬ ((fX6_whyNoRow v_a) = 0) from oh_why v_a)) (fun _ => ?_)
  refine lv_aload_n hx hb dX6_set_12 rfl (lv_at hl 1 rfl) ?_
  refine lv_iload hx hb dX6_set_13 (lv_at hl 0 rfl) ?_
  refine oh_mV (As := [.int (fX6_whyNoRow v_a)]) (rest := []) (wr := [(a0_shelves, .inr (3, [.ref a0_shelves_held, .ref a0_shelves_size, .ref a0_shelves_cells])), (a0_shelves_held, .inl (E 0, 8, .inl (fun _ => (-1))))]) ⟨hx, hb, hml, hown, htg⟩ (c_X6_refuse l D E G s.heap.size a0 (fX6_whyNoRow v_a) a0_now a0_kept a0_ways a0_shelves a0_tape a0_reader a0_refusals a0_bestPack) (cwV 1 htg (oh_gV q_296 q_298 q_0 q_66 q_299) rfl rfl rfl pdVX6_refuse ⟨Nat.le_of_ble_eq_true rfl, Nat.le_of_ble_eq_true rfl⟩) hK hP hD hG hS hA [0, 3] [1, 2] rfl rfl (by decide) (by decide) (by decide) (va_recv hK hP (ci := 6) (q0 := 0) rfl rfl) rfl hl.1 rfl (Nat.le_of_ble_eq_true rfl) dX6_set_15 ⟨Nat.le_of_ble_eq_true rfl, Nat.le_of_ble_eq_true rfl⟩ (fun r_1 u H locs hw hP hD hS => ?_)
  subst hw
  have hP : va_P D vwCl [(a0_shelves, .inr (3, [.ref a0_shelves_held, .ref a0_shelves_size, .ref a0_shelves_cells])), (a0_shelves_held, .inl (E 0, 8, .inl (fun _ => (-1)))), (a0, .inr (6, [.ref a0_now, .ref a0_kept, .int 0, .ref a0_ways, .ref a0_shelves, .ref a0_tape, .ref a0_reader, .ref a0_refusals, .ref a0_bestPack]))] H := hP
  have hD : va_D A [(a0_shelves, .inr (3, [.ref a0_shelves_held, .ref a0_shelves_size, .ref a0_shelves_cells])), (a0_shelves_held, .inl (E 0, 8, .inl (fun _ => (-1)))), (a0, .inr (6, [.ref a0_now, .ref a0_kept, .int 0, .ref a0_ways, .ref a0_shelves, .ref a0_tape, .ref a0_reader, .ref a0_refusals, .ref a0_bestPack]))] := hD
  refine W.widen (k := 0) (n := 0) (Nat.le_refl _) (Nat.le_refl _) ?_
  refine W.widen (k := 0) (n := 0) (Nat.le_of_ble_eq_true rfl) (Nat.le_of_ble_eq_true rfl) ?_
  exact W.iret (v := (fX6_whyNoRow v_a)) hx hb hr (fun t ht hW => ⟨⟨(fX6_whyNoRow v_a), (), rfl, rfl, ⟨by rw [ht]; exact hP.sub [] rfl, hD.sub [] (by decide) rfl⟩⟩, hS.F ht⟩) hS.2.2 dX6_set_18
def fX6_copy (v_a : Int32) (v_b : Int32) (v_c : Int32) (v_d : Int32) (v_e : Int32) : Int32 :=
  if (fX6_within v_a 0 7) = 0 then (-2) else if (fX6_within v_b 0 7) = 0 then (-2) else (-4)
set_option maxHeartbeats 4000000 in
set_option maxRecDepth 100000 in
theorem c_X6_copy (l : Launch) (D : va_G) (E : Nat → ClassId) (G : Nat → Nat) (sz : Nat) (a0 : Nat) (v_a : Int32) (v_b : Int32) (v_c : Int32) (v_d : Int32) (v_e : Int32) (a0_now : Nat) (a0_kept : Nat) (a0_ways : Nat) (a0_shelves : Nat) (a0_tape : Nat) (a0_reader : Nat) (a0_refusals : Nat) (a0_bestPack : Nat) (a0_shelves_held : Nat) (a0_shelves_size : Nat) (a0_shelves_cells : Nat) : Met l yX6_copy (oh_w yX6_copy cX6_copy 6 (some .int)) ({ frames := 3, cells := 0, slots := 0, locals := 64 }) (oh_Pm D E G [.ref a0, .int v_a, .int v_b, .int v_c, .int v_d, .int v_e] [(a0, .inr (6, [.ref a0_now, .ref a0_kept, .int 0, .ref a0_ways, .ref a0_shelves, .ref a0_tape, .ref a0_reader, .ref a0_refusals, .ref a0_bestPack])), (a0_shelves, .inr (3, [.ref a0_shelves_held, .ref a0_shelves_size, .ref a0_shelves_cells])), (a0_shelves_held, .inl (E 0, 8, .inl (fun _ => (-1)))), (a0_refusals, .inl (E 0, 5, .inl (fun _ => 0)))] sz) (va_Qi (fun r (_ : Unit) => r = fX6_copy v_a v_b v_c v_d v_e) (oh_B D (va_A [(a0, .inr (6, [.ref a0_now, .ref a0_kept, .int 0, .ref a0_ways, .ref a0_shelves, .ref a0_tape, .ref a0_reader, .ref a0_refusals, .ref a0_bestPack])), (a0_shelves, .inr (3, [.ref a0_shelves_held, .ref a0_shelves_size, .ref a0_shelves_cells])), (a0_shelves_held, .inl (E 0, 8, .inl (fun _ => (-1)))), (a0_refusals, .inl (E 0, 5, .inl (fun _ => 0)))] sz) (fun _ => [])) (va_A [(a0, .inr (6, [.ref a0_now, .ref a0_kept, .int 0, .ref a0_ways, .ref a0_shelves, .ref a0_tape, .ref a0_reader, .ref a0_refusals, .ref a0_bestPack])), (a0_shelves, .inr (3, [.ref a0_shelves_held, .ref a0_shelves_size, .ref a0_shelves_cells])), (a0_shelves_held, .inl (E 0, 8, .inl (fun _ => (-1)))), (a0_refusals, .inl (E 0, 5, .inl (fun _ => 0)))] sz)) 0 0 (va_A [(a0, .inr (6, [.ref a0_now, .ref a0_kept, .int 0, .ref a0_ways, .ref a0_shelves, .ref a0_tape, .ref a0_reader, .ref a0_refusals, .ref a0_bestPack])), (a0_shelves, .inr (3, [.ref a0_shelves_held, .ref a0_shelves_size, .ref a0_shelves_cells])), (a0_shelves_held, .inl (E 0, 8, .inl (fun _ => (-1)))), (a0_refusals, .inl (E 0, 5, .inl (fun _ => 0)))] sz) := by
  refine Met.ofW (cc := cX6_copy) (maxL := 6) (ret := (some .int)) (by decide) rfl ?_
  intro p e s m args below meth c s₁ B hml hv
  obtain ⟨rfl, hsz, hP, hK, hD0, hG⟩ := hv
  have hx := B.exec
  have hb := B.bytes
  have hr := B.returns
  have hts := atoms_spec (ws := (oh_w yX6_copy cX6_copy 6 (some .int))) B.pre
  have htg : ∀ w ∈ oh_t, w.before _ s = true := fun w h => hts w (List.mem_cons_of_mem _ h)
  have hown : s.vm.findClass RX6 = some m.cls := findClass_of_methodNamed B.named
  have hlocks := B.notSynchronized
  subst hsz
  have hD := hD0.self (sz := s.heap.size)
  generalize hAe : va_A [(a0, .inr (6, [.ref a0_now, .ref a0_kept, .int 0, .ref a0_ways, .ref a0_shelves, .ref a0_tape, .ref a0_reader, .ref a0_refusals, .ref a0_bestPack])), (a0_shelves, .inr (3, [.ref a0_shelves_held, .ref a0_shelves_size, .ref a0_shelves_cells])), (a0_shelves_held, .inl (E 0, 8, .inl (fun _ => (-1)))), (a0_refusals, .inl (E 0, 5, .inl (fun _ => 0)))] s.heap.size = A at hD hG ⊢
  have hA : ∀ q : Nat, s.heap.size ≤ q → A q := fun q h => by rw [← hAe]; exact Or.inr h
  have hS : va_S A s.heap s.heap [] := va_S.rf
  have hP : va_P D vwCl [(a0, .inr (6, [.ref a0_now, .ref a0_kept, .int 0, .ref a0_ways, .ref a0_shelves, .ref a0_tape, .ref a0_reader, .ref a0_refusals, .ref a0_bestPack])), (a0_shelves, .inr (3, [.ref a0_shelves_held, .ref a0_shelves_size, .ref a0_shelves_cells])), (a0_shelves_held, .inl (E 0, 8, .inl (fun _ => (-1)))), (a0_refusals, .inl (E 0, 5, .inl (fun _ => 0)))] s.heap := hP
  have hl := lv_entry ([.ref a0, .int v_a, .int v_b, .int v_c, .int v_d, .int v_e]) (n := 6) (Nat.le_of_ble_eq_true rfl)
  rw [lg_entry_eq]
  generalize (lg_sl ([.ref a0, .int v_a, .int v_b, .int v_c, .int v_d, .int v_e]) ++ List.replicate (6 - (lg_sl ([.ref a0, .int v_a, .int v_b, .int v_c, .int v_d, .int v_e])).length) Slot.unset).toArray = ls at hl ⊢
  have hl : lv_has ls 6 [(0, .ref a0), (1, .int v_a), (2, .int v_b), (3, .int v_c), (4, .int v_d), (5, .int v_e)] := hl
  refine lv_iload_n hx hb dX6_copy_0 rfl (lv_at hl 1 rfl) ?_
  refine oh_pS (As := [.int v_a]) (rest := []) (v := fX6_within v_a 0 7) ⟨hx, hb, hml, hown, htg⟩ (c_X6_isShelf l D E G v_a) (va_cwS 1 htg (oh_gS q_290 q_291 q_66 q_292) rfl rfl rfl pdX6_isShelf ⟨Nat.le_of_ble_eq_true rfl, Nat.le_of_ble_eq_true rfl⟩) hK (hP.sub (ws' := []) [] rfl) hG hS rfl hl.1 rfl (Nat.le_of_ble_eq_true rfl) dX6_copy_1 ⟨Nat.le_of_ble_eq_true rfl, Nat.le_of_ble_eq_true rfl⟩ ?_
  refine lv_if_eq (tgt := 14) hx hb dX6_copy_4 (by decide) (fun (c_1 : (fX6_within v_a 0 7) = 0) => ?_) (fun (c_1 : ¬ ((fX6_within v_a 0 7) = 0)) => ?_)
  · refine lv_aload_n hx hb dX6_copy_14 rfl (lv_at hl 0 rfl) ?_
    refine lv_bipush (v := (-2)) hx hb dX6_copy_15 (by decide) ?_
    refine oh_mV (As := [.int (-2)]) (rest := []) (wr := [(a0_shelves, .inr (3, [.ref a0_shelves_held, .ref a0_shelves_size, .ref a0_shelves_cells])), (a0_shelves_held, .inl (E 0, 8, .inl (fun _ => (-1))))]) ⟨hx, hb, hml, hown, htg⟩ (c_X6_refuse l D E G s.heap.size a0 (-2) a0_now a0_kept a0_ways a0_shelves a0_tape a0_reader a0_refusals a0_bestPack) (cwV 1 htg (oh_gV q_296 q_298 q_0 q_66 q_299) rfl rfl rfl pdVX6_refuse ⟨Nat.le_of_ble_eq_true rfl, Nat.le_of_ble_eq_true rfl⟩) hK hP hD hG hS hA [0, 3] [1, 2] rfl rfl (by decide) (by decide) (by decide) (va_recv hK hP (ci := 6) (q0 := 0) rfl rfl) rfl hl.1 rfl (Nat.le_of_ble_eq_true rfl) dX6_copy_17 ⟨Nat.le_of_ble_eq_true rfl, Nat.le_of_ble_eq_true rfl⟩ (fun r_1 u H locs hw hP hD hS => ?_)
    subst hw
    have hP : va_P D vwCl [(a0_shelves, .inr (3, [.ref a0_shelves_held, .ref a0_shelves_size, .ref a0_shelves_cells])), (a0_shelves_held, .inl (E 0, 8, .inl (fun _ => (-1)))), (a0, .inr (6, [.ref a0_now, .ref a0_kept, .int 0, .ref a0_ways, .ref a0_shelves, .ref a0_tape, .ref a0_reader, .ref a0_refusals, .ref a0_bestPack]))] H := hP
    have hD : va_D A [(a0_shelves, .inr (3, [.ref a0_shelves_held, .ref a0_shelves_size, .ref a0_shelves_cells])), (a0_shelves_held, .inl (E 0, 8, .inl (fun _ => (-1)))), (a0, .inr (6, [.ref a0_now, .ref a0_kept, .int 0, .ref a0_ways, .ref a0_shelves, .ref a0_tape, .ref a0_reader, .ref a0_refusals, .ref a0_bestPack]))] := hD
    refine W.widen (k := 0) (n := 0) (Nat.le_refl _) (Nat.le_refl _) ?_
    refine W.widen (k := 0) (n := 0) (Nat.le_of_ble_eq_true rfl) (Nat.le_of_ble_eq_true rfl) ?_
    exact W.iret (v := (-2)) hx hb hr (fun t ht hW => ⟨⟨(-2), (), rfl, by unfold fX6_copy; rw [if_pos c_1], ⟨by rw [ht]; exact hP.sub [] rfl, hD.sub [] (by decide) rfl⟩⟩, hS.F ht⟩) hS.2.2 dX6_copy_20
  · refine lv_iload_n hx hb dX6_copy_7 rfl (lv_at hl 2 rfl) ?_
    refine oh_pS (As := [.int v_b]) (rest := []) (v := fX6_within v_b 0 7) ⟨hx, hb, hml, hown, htg⟩ (c_X6_isShelf l D E G v_b) (va_cwS 1 htg (oh_gS q_290 q_291 q_66 q_292) rfl rfl rfl pdX6_isShelf ⟨Nat.le_of_ble_eq_true rfl, Nat.le_of_ble_eq_true rfl⟩) hK (hP.sub (ws' := []) [] rfl) hG hS rfl hl.1 rfl (Nat.le_of_ble_eq_true rfl) dX6_copy_8 ⟨Nat.le_of_ble_eq_true rfl, Nat.le_of_ble_eq_true rfl⟩ ?_
    refine lv_if_ne (tgt := 21) hx hb dX6_copy_11 (by decide) (fun (c_2 : ¬ ((fX6_within v_b 0 7) = 0)) => ?_) (fun (c_2 : (fX6_within v_b 0 7) = 0) => ?_)
    · refine lv_aload_n hx hb dX6_copy_21 rfl (lv_at hl 0 rfl) ?_
      refine va_get (D := D) (ci := 6) (v := .ref a0_shelves) (C := RX6) (T := TX6) (N := 9) hx hb htg ig_6 hown hK hP 0 rfl rfl 4 (by decide) (htg _ q_262) (fun _ h9 => h9) rfl dX6_copy_22 ?_
      refine lv_iload_n hx hb dX6_copy_25 rfl (lv_at hl 1 rfl) ?_
      refine oh_pV (As := [.int v_a]) (rest := []) (v := 0) ⟨hx, hb, hml, hown, htg⟩ (c_X3_holdsBridge l D E G a0_shelves v_a a0_shelves_held a0_shelves_size a0_shelves_cells (oh_win c_1 (by decide))) (cwV 1 htg (oh_gV q_312 q_313 q_314 q_70 q_315) rfl rfl rfl pdVX3_holdsBridge ⟨Nat.le_of_ble_eq_true rfl, Nat.le_of_ble_eq_true rfl⟩) hK (hP.sub (ws' := [(a0_shelves, .inr (3, [.ref a0_shelves_held, .ref a0_shelves_size, .ref a0_shelves_cells])), (a0_shelves_held, .inl (E 0, 8, .inl (fun _ => (-1))))]) [1, 2] rfl) hG hS (va_recv hK hP (ci := 3) (q0 := 1) rfl rfl) rfl hl.1 rfl (Nat.le_of_ble_eq_true rfl) dX6_copy_26 ⟨Nat.le_of_ble_eq_true rfl, Nat.le_of_ble_eq_true rfl⟩ ?_
      refine lv_if_ne (tgt := 55) hx hb dX6_copy_29 (by decide) (fun c => absurd (show (0 : Int32) = 0 from by decide) c) (fun _ => ?_)
      refine lv_aload_n hx hb dX6_copy_32 rfl (lv_at hl 0 rfl) ?_
      refine va_get (D := D) (ci := 6) (v := .ref a0_shelves) (C := RX6) (T := TX6) (N := 9) hx hb htg ig_6 hown hK hP 0 rfl rfl 4 (by decide) (htg _ q_262) (fun _ h9 => h9) rfl dX6_copy_33 ?_
      refine lv_iload_n hx hb dX6_copy_36 rfl (lv_at hl 2 rfl) ?_
      refine oh_pV (As := [.int v_b]) (rest := []) (v := 0) ⟨hx, hb, hml, hown, htg⟩ (c_X3_holdsBridge l D E G a0_shelves v_b a0_shelves_held a0_shelves_size a0_shelves_cells (oh_win c_2 (by decide))) (cwV 1 htg (oh_gV q_312 q_313 q_314 q_70 q_315) rfl rfl rfl pdVX3_holdsBridge ⟨Nat.le_of_ble_eq_true rfl, Nat.le_of_ble_eq_true rfl⟩) hK (hP.sub (ws' := [(a0_shelves, .inr (3, [.ref a0_shelves_held, .ref a0_shelves_size, .ref a0_shelves_cells])), (a0_shelves_held, .inl (E 0, 8, .inl (fun _ => (-1))))]) [1, 2] rfl) hG hS (va_recv hK hP (ci := 3) (q0 := 1) rfl rfl) rfl hl.1 rfl (Nat.le_of_ble_eq_true rfl) dX6_copy_37 ⟨Nat.le_of_ble_eq_true rfl, Nat.le_of_ble_eq_true rfl⟩ ?_
      refine lv_if_ne (tgt := 55) hx hb dX6_copy_40 (by decide) (fun c => absurd (show (0 : Int32) = 0 from by decide) c) (fun _ => ?_)
      refine lv_aload_n hx hb dX6_copy_43 rfl (lv_at hl 0 rfl) ?_
      refine va_get (D := D) (ci := 6) (v := .ref a0_shelves) (C := RX6) (T := TX6) (N := 9) hx hb htg ig_6 hown hK hP 0 rfl rfl 4 (by decide) (htg _ q_262) (fun _ h9 => h9) rfl dX6_copy_44 ?_
      refine lv_iload_n hx hb dX6_copy_47 rfl (lv_at hl 1 rfl) ?_
      refine lv_iload_n hx hb dX6_copy_48 rfl (lv_at hl 2 rfl) ?_
      refine oh_pV (As := [.int v_a, .int v_b]) (rest := []) (v := 0) ⟨hx, hb, hml, hown, htg⟩ (c_X3_holdsUnlikeRows l D E G a0_shelves v_a v_b a0_shelves_held a0_shelves_size a0_shelves_cells (oh_win c_1 (by decide)) (oh_win c_2 (by decide))) (cwV 2 htg (oh_gV q_331 q_332 q_333 q_70 q_334) rfl rfl rfl pdVX3_holdsUnlikeRows ⟨Nat.le_of_ble_eq_true rfl, Nat.le_of_ble_eq_true rfl⟩) hK (hP.sub (ws' := [(a0_shelves, .inr (3, [.ref a0_shelves_held, .ref a0_shelves_size, .ref a0_shelves_cells])), (a0_shelves_held, .inl (E 0, 8, .inl (fun _ => (-1))))]) [1, 2] rfl) hG hS (va_recv hK hP (ci := 3) (q0 := 1) rfl rfl) rfl hl.1 rfl (Nat.le_of_ble_eq_true rfl) dX6_copy_49 ⟨Nat.le_of_ble_eq_true rfl, Nat.le_of_ble_eq_true rfl⟩ ?_
      refine lv_if_eq (tgt := 62) hx hb dX6_copy_52 (by decide) (fun _ => ?_) (fun c => absurd (show (0 : Int32) = 0 from by decide) c)
      refine lv_aload_n hx hb dX6_copy_62 rfl (lv_at hl 0 rfl) ?_
      refine va_get (D := D) (ci := 6) (v := .ref a0_shelves) (C := RX6) (T := TX6) (N := 9) hx hb htg ig_6 hown hK hP 0 rfl rfl 4 (by decide) (htg _ q_262) (fun _ h9 => h9) rfl dX6_copy_63 ?_
      refine lv_iload_n hx hb dX6_copy_66 rfl (lv_at hl 1 rfl) ?_
      refine oh_pV (As := [.int v_a]) (rest := []) (v := 1) ⟨hx, hb, hml, hown, htg⟩ (c_X3_holdsNothing l D E G a0_shelves v_a a0_shelves_held a0_shelves_size a0_shelves_cells (oh_win c_1 (by decide))) (cwV 1 htg (oh_gV q_316 q_317 q_318 q_70 q_319) rfl rfl rfl pdVX3_holdsNothing ⟨Nat.le_of_ble_eq_true rfl, Nat.le_of_ble_eq_true rfl⟩) hK (hP.sub (ws' := [(a0_shelves, .inr (3, [.ref a0_shelves_held, .ref a0_shelves_size, .ref a0_shelves_cells])), (a0_shelves_held, .inl (E 0, 8, .inl (fun _ => (-1))))]) [1, 2] rfl) hG hS (va_recv hK hP (ci := 3) (q0 := 1) rfl rfl) rfl hl.1 rfl (Nat.le_of_ble_eq_true rfl) dX6_copy_67 ⟨Nat.le_of_ble_eq_true rfl, Nat.le_of_ble_eq_true rfl⟩ ?_
      refine lv_if_ne (tgt := 84) hx hb dX6_copy_70 (by decide) (fun _ => ?_) (fun c => absurd c (show ¬ ((1 : Int32) = 0) from by decide))
      refine lv_aload_n hx hb dX6_copy_84 rfl (lv_at hl 0 rfl) ?_
      refine lv_bipush (v := (-4)) hx hb dX6_copy_85 (by decide) ?_
      refine oh_mV (As := [.int (-4)]) (rest := []) (wr := [(a0_shelves, .inr (3, [.ref a0_shelves_held, .ref a0_shelves_size, .ref a0_shelves_cells])), (a0_shelves_held, .inl (E 0, 8, .inl (fun _ => (-1))))]) ⟨hx, hb, hml, hown, htg⟩ (c_X6_refuse l D E G s.heap.size a0 (-4) a0_now a0_kept a0_ways a0_shelves a0_tape a0_reader a0_refusals a0_bestPack) (cwV 1 htg (oh_gV q_296 q_298 q_0 q_66 q_299) rfl rfl rfl pdVX6_refuse ⟨Nat.le_of_ble_eq_true rfl, Nat.le_of_ble_eq_true rfl⟩) hK hP hD hG hS hA [0, 3] [1, 2] rfl rfl (by decide) (by decide) (by decide) (va_recv hK hP (ci := 6) (q0 := 0) rfl rfl) rfl hl.1 rfl (Nat.le_of_ble_eq_true rfl) dX6_copy_87 ⟨Nat.le_of_ble_eq_true rfl, Nat.le_of_ble_eq_true rfl⟩ (fun r_2 u H locs hw hP hD hS => ?_)
      subst hw
      have hP : va_P D vwCl [(a0_shelves, .inr (3, [.ref a0_shelves_held, .ref a0_shelves_size, .ref a0_shelves_cells])), (a0_shelves_held, .inl (E 0, 8, .inl (fun _ => (-1)))), (a0, .inr (6, [.ref a0_now, .ref a0_kept, .int 0, .ref a0_ways, .ref a0_shelves, .ref a0_tape, .ref a0_reader, .ref a0_refusals, .ref a0_bestPack]))] H := hP
      have hD : va_D A [(a0_shelves, .inr (3, [.ref a0_shelves_held, .ref a0_shelves_size, .ref a0_shelves_cells])), (a0_shelves_held, .inl (E 0, 8, .inl (fun _ => (-1)))), (a0, .inr (6, [.ref a0_now, .ref a0_kept, .int 0, .ref a0_ways, .ref a0_shelves, .ref a0_tape, .ref a0_reader, .ref a0_refusals, .ref a0_bestPack]))] := hD
      refine W.widen (k := 0) (n := 0) (Nat.le_refl _) (Nat.le_refl _) ?_
      refine W.widen (k := 0) (n := 0) (Nat.le_of_ble_eq_true rfl) (Nat.le_of_ble_eq_true rfl) ?_
      exact W.iret (v := (-4)) hx hb hr (fun t ht hW => ⟨⟨(-4), (), rfl, by unfold fX6_copy; rw [if_neg c_1, if_neg c_2], ⟨by rw [ht]; exact hP.sub [] rfl, hD.sub [] (by decide) rfl⟩⟩, hS.F ht⟩) hS.2.2 dX6_copy_90
    · refine lv_aload_n hx hb dX6_copy_14 rfl (lv_at hl 0 rfl) ?_
      refine lv_bipush (v := (-2)) hx hb dX6_copy_15 (by decide) ?_
      refine oh_mV (As := [.int (-2)]) (rest := []) (wr := [(a0_shelves, .inr (3, [.ref a0_shelves_held, .ref a0_shelves_size, .ref a0_shelves_cells])), (a0_shelves_held, .inl (E 0, 8, .inl (fun _ => (-1))))]) ⟨hx, hb, hml, hown, htg⟩ (c_X6_refuse l D E G s.heap.size a0 (-2) a0_now a0_kept a0_ways a0_shelves a0_tape a0_reader a0_refusals a0_bestPack) (cwV 1 htg (oh_gV q_296 q_298 q_0 q_66 q_299) rfl rfl rfl pdVX6_refuse ⟨Nat.le_of_ble_eq_true rfl, Nat.le_of_ble_eq_true rfl⟩) hK hP hD hG hS hA [0, 3] [1, 2] rfl rfl (by decide) (by decide) (by decide) (va_recv hK hP (ci := 6) (q0 := 0) rfl rfl) rfl hl.1 rfl (Nat.le_of_ble_eq_true rfl) dX6_copy_17 ⟨Nat.le_of_ble_eq_true rfl, Nat.le_of_ble_eq_true rfl⟩ (fun r_3 u H locs hw hP hD hS => ?_)
      subst hw
      have hP : va_P D vwCl [(a0_shelves, .inr (3, [.ref a0_shelves_held, .ref a0_shelves_size, .ref a0_shelves_cells])), (a0_shelves_held, .inl (E 0, 8, .inl (fun _ => (-1)))), (a0, .inr (6, [.ref a0_now, .ref a0_kept, .int 0, .ref a0_ways, .ref a0_shelves, .ref a0_tape, .ref a0_reader, .ref a0_refusals, .ref a0_bestPack]))] H := hP
      have hD : va_D A [(a0_shelves, .inr (3, [.ref a0_shelves_held, .ref a0_shelves_size, .ref a0_shelves_cells])), (a0_shelves_held, .inl (E 0, 8, .inl (fun _ => (-1)))), (a0, .inr (6, [.ref a0_now, .ref a0_kept, .int 0, .ref a0_ways, .ref a0_shelves, .ref a0_tape, .ref a0_reader, .ref a0_refusals, .ref a0_bestPack]))] := hD
      refine W.widen (k := 0) (n := 0) (Nat.le_refl _) (Nat.le_refl _) ?_
      refine W.widen (k := 0) (n := 0) (Nat.le_of_ble_eq_true rfl) (Nat.le_of_ble_eq_true rfl) ?_
      exact W.iret (v := (-2)) hx hb hr (fun t ht hW => ⟨⟨(-2), (), rfl, by unfold fX6_copy; rw [if_neg c_1, if_pos c_2], ⟨by rw [ht]; exact hP.sub [] rfl, hD.sub [] (by decide) rfl⟩⟩, hS.F ht⟩) hS.2.2 dX6_copy_20
set_option maxHeartbeats 4000000 in
set_option maxRecDepth 100000 in
theorem c_X6_element (l : Launch) (D : va_G) (E : Nat → ClassId) (G : Nat → Nat) (a0 : Nat) (v_a : Int32) (v_b : Int32) (a0_now : Nat) (a0_kept : Nat) (a0_ways : Nat) (a0_shelves : Nat) (a0_tape : Nat) (a0_reader : Nat) (a0_refusals : Nat) (a0_bestPack : Nat) (a0_shelves_held : Nat) (a0_shelves_size : Nat) (a0_shelves_cells : Nat) : Met l yX6_element (oh_w yX6_element cX6_element 3 (some .long)) ({ frames := 2, cells := 0, slots := 0, locals := 42 }) (oh_Pp D E G [.ref a0, .int v_a, .int v_b] [(a0, .inr (6, [.ref a0_now, .ref a0_kept, .int 0, .ref a0_ways, .ref a0_shelves, .ref a0_tape, .ref a0_reader, .ref a0_refusals, .ref a0_bestPack])), (a0_shelves, .inr (3, [.ref a0_shelves_held, .ref a0_shelves_size, .ref a0_shelves_cells])), (a0_shelves_held, .inl (E 0, 8, .inl (fun _ => (-1))))]) (vp_Sl (fun r => r = 0)) 0 0 (fun _ => False) := by
  refine Met.ofW (cc := cX6_element) (maxL := 3) (ret := (some .long)) (by decide) rfl ?_
  intro p e s m args below meth c s₁ B hml hv
  obtain ⟨rfl, hP, hK, hG⟩ := hv
  have hx := B.exec
  have hb := B.bytes
  have hr := B.returns
  have hts := atoms_spec (ws := (oh_w yX6_element cX6_element 3 (some .long))) B.pre
  have htg : ∀ w ∈ oh_t, w.before _ s = true := fun w h => hts w (List.mem_cons_of_mem _ h)
  have hown : s.vm.findClass RX6 = some m.cls := findClass_of_methodNamed B.named
  have hlocks := B.notSynchronized
  have hS : va_S (fun _ => False) s.heap s.heap [] := va_S.rf
  have hl := lv_entry ([.ref a0, .int v_a, .int v_b]) (n := 3) (Nat.le_of_ble_eq_true rfl)
  rw [lg_entry_eq]
  generalize (lg_sl ([.ref a0, .int v_a, .int v_b]) ++ List.replicate (3 - (lg_sl ([.ref a0, .int v_a, .int v_b])).length) Slot.unset).toArray = ls at hl ⊢
  have hl : lv_has ls 3 [(0, .ref a0), (1, .int v_a), (2, .int v_b)] := hl
  refine lv_iload_n hx hb dX6_element_0 rfl (lv_at hl 1 rfl) ?_
  refine oh_pS (As := [.int v_a]) (rest := []) (v := fX6_within v_a 0 7) ⟨hx, hb, hml, hown, htg⟩ (c_X6_isShelf l D E G v_a) (va_cwS 1 htg (oh_gS q_290 q_291 q_66 q_292) rfl rfl rfl pdX6_isShelf ⟨Nat.le_of_ble_eq_true rfl, Nat.le_of_ble_eq_true rfl⟩) hK (hP.sub (ws' := []) [] rfl) hG hS rfl hl.1 rfl (Nat.le_of_ble_eq_true rfl) dX6_element_1 ⟨Nat.le_of_ble_eq_true rfl, Nat.le_of_ble_eq_true rfl⟩ ?_
  refine lv_if_eq (tgt := 18) hx hb dX6_element_4 (by decide) (fun (c_1 : (fX6_within v_a 0 7) = 0) => ?_) (fun (c_1 : ¬ ((fX6_within v_a 0 7) = 0)) => ?_)
  · refine lv_lconst (v := 0) hx hb dX6_element_18 (by decide) ?_
    exact W.lret (v := 0) hx hb hr (fun t ht hW => ⟨0, rfl, rfl, ht⟩) (fun q h => by cases h) dX6_element_19
  · refine lv_aload_n hx hb dX6_element_7 rfl (lv_at hl 0 rfl) ?_
    refine va_get (D := D) (ci := 6) (v := .ref a0_shelves) (C := RX6) (T := TX6) (N := 9) hx hb htg ig_6 hown hK hP 0 rfl rfl 4 (by decide) (htg _ q_262) (fun _ h9 => h9) rfl dX6_element_8 ?_
    refine lv_iload_n hx hb dX6_element_11 rfl (lv_at hl 1 rfl) ?_
    refine oh_pV (As := [.int v_a]) (rest := []) (v := 0) ⟨hx, hb, hml, hown, htg⟩ (c_X3_holdsRow l D E G a0_shelves v_a a0_shelves_held a0_shelves_size a0_shelves_cells (oh_win c_1 (by decide))) (cwV 1 htg (oh_gV q_352 q_336 q_337 q_70 q_338) rfl rfl rfl pdVX3_holdsRow ⟨Nat.le_of_ble_eq_true rfl, Nat.le_of_ble_eq_true rfl⟩) hK (hP.sub (ws' := [(a0_shelves, .inr (3, [.ref a0_shelves_held, .ref a0_shelves_size, .ref a0_shelves_cells])), (a0_shelves_held, .inl (E 0, 8, .inl (fun _ => (-1))))]) [1, 2] rfl) hG hS (va_recv hK hP (ci := 3) (q0 := 1) rfl rfl) rfl hl.1 rfl (Nat.le_of_ble_eq_true rfl) dX6_element_12 ⟨Nat.le_of_ble_eq_true rfl, Nat.le_of_ble_eq_true rfl⟩ ?_
    refine lv_if_ne (tgt := 20) hx hb dX6_element_15 (by decide) (fun c => absurd (show (0 : Int32) = 0 from by decide) c) (fun _ => ?_)
    refine lv_lconst (v := 0) hx hb dX6_element_18 (by decide) ?_
    exact W.lret (v := 0) hx hb hr (fun t ht hW => ⟨0, rfl, rfl, ht⟩) (fun q h => by cases h) dX6_element_19
